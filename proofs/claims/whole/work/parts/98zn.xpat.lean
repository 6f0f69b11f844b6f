/-! ===== CONTRACTS: Page.add; the reader: passPattern ===== -/
set_option maxRecDepth 20000 in
set_option maxHeartbeats 4000000 in
theorem c_pgAdd0 {h : qH} {F G : Nat → Nat → Int} {L : Nat} (o l r0 md : Int) (hL : F 165 4 = (L : Int)) (hL2 : L < 24) : qEx M_X2_add 0 [qR 165, qI o, qI l, qI r0, qI md, qU] [] (xput h F G) none (xput h (gup F 165 (qup (F 165) 4 ((L : Int) + 1))) (gup (gup (gup (gup G 166 (qmx 9 (fun s => qOr (G 166 s) (qShl (qAnd (qShr o (s : Int)) 1) (L : Int))) (G 166))) 167 (qmx 9 (fun s => qOr (G 167 s) (qShl (qAnd (qShr l (s : Int)) 1) (L : Int))) (G 167))) 168 (qmx 9 (fun s => qOr (G 168 s) (qShl (qAnd (qShr r0 (s : Int)) 1) (L : Int))) (G 168))) 169 (qup (G 169) L md))) := by
  refine q_gen (fun r hr er eh => ?_)
  refine z_aload_n d_X2_add_0 rfl rfl ?_
  refine z_getf (v := qI ((F 165) 4)) d_X2_add_1 fl_X2_24 (xput_ob (c := (F 165)) xi_165 rfl (xsh_2 xo_165)) rfl ?_
  refine z_eq rfl (qc (qi hL) rfl) rfl ?_
  refine z_bipush d_X2_add_4 (by decide) ?_
  refine z_icmp_lt 10 d_X2_add_6 (by decide) (fun hc1 => ?_) (fun hc1 => absurd hc1 (by omega))
  refine z_iconst d_X2_add_10 (by decide) ?_
  refine z_istore (ls' := [qR 165, qI o, qI l, qI r0, qI md, qI 0]) d_X2_add_11 (by decide) rfl ?_
  refine z_eq (qc rfl (qc rfl (qc rfl (qc rfl (qc rfl (qc (qi (rfl)) rfl)))))) rfl (xput_cg rfl (by rw [qmx_0, qmx_0, qmx_0, gup_self rfl, gup_self rfl, gup_self rfl])) (z_for 9 (fun k => [qR 165, qI o, qI l, qI r0, qI md, qI (k : Int)]) (fun k => (xput h F (gup (gup (gup G 166 (qmx k (fun s => qOr (G 166 s) (qShl (qAnd (qShr o (s : Int)) 1) (L : Int))) (G 166))) 167 (qmx k (fun s => qOr (G 167 s) (qShl (qAnd (qShr l (s : Int)) 1) (L : Int))) (G 167))) 168 (qmx k (fun s => qOr (G 168 s) (qShl (qAnd (qShr r0 (s : Int)) 1) (L : Int))) (G 168))))) (fun k => True) trivial (fun k hik hp9 kkk => ?_) (fun hp9 => ?_))
  · show qEx M_X2_add 13 [qR 165, qI o, qI l, qI r0, qI md, qI (k : Int)] [] (xput h F (gup (gup (gup G 166 (qmx k (fun s => qOr (G 166 s) (qShl (qAnd (qShr o (s : Int)) 1) (L : Int))) (G 166))) 167 (qmx k (fun s => qOr (G 167 s) (qShl (qAnd (qShr l (s : Int)) 1) (L : Int))) (G 167))) 168 (qmx k (fun s => qOr (G 168 s) (qShl (qAnd (qShr r0 (s : Int)) 1) (L : Int))) (G 168)))) r hr
    refine z_iload d_X2_add_13 rfl ?_
    refine z_bipush d_X2_add_15 (by decide) ?_
    refine z_icmp_ge 89 d_X2_add_17 (by decide) (fun hc2 => absurd hc2 (by omega)) (fun hc2 => ?_)
    refine z_aload_n d_X2_add_20 rfl rfl ?_
    refine z_getf (v := qR 166) d_X2_add_21 fl_X2_9 (xput_ob (c := (F 165)) xi_165 rfl (xsh_2 xo_165)) rfl ?_
    refine z_iload d_X2_add_24 rfl ?_
    refine z_dup2 d_X2_add_26 rfl rfl ?_
    refine z_ild k d_X2_add_27 (xput_ar (g := (qmx k (fun s => qOr (G 166 s) (qShl (qAnd (qShr o (s : Int)) 1) (L : Int))) (G 166))) xa_166 rfl) rfl (by omega) ?_
    refine z_iload_n d_X2_add_28 rfl rfl ?_
    refine z_iload d_X2_add_29 rfl ?_
    refine z_ishr d_X2_add_31 ?_
    refine z_iconst d_X2_add_32 (by decide) ?_
    refine z_iand d_X2_add_33 ?_
    refine z_aload_n d_X2_add_34 rfl rfl ?_
    refine z_getf (v := qI ((F 165) 4)) d_X2_add_35 fl_X2_24 (xput_ob (c := (F 165)) xi_165 rfl (xsh_2 xo_165)) rfl ?_
    refine z_eq rfl (qc (qi hL) rfl) rfl ?_
    refine z_ishl d_X2_add_38 ?_
    refine z_ior d_X2_add_39 ?_
    refine z_ist k d_X2_add_40 (xput_ar (g := (qmx k (fun s => qOr (G 166 s) (qShl (qAnd (qShr o (s : Int)) 1) (L : Int))) (G 166))) xa_166 rfl) (by omega) rfl (by omega) ?_
    refine z_eq rfl rfl ((xput_sa xa_166).trans (xput_cg rfl ((gup_comm (by omega)).trans (congrArg (fun z => gup z 168 (qmx k (fun s => qOr (G 168 s) (qShl (qAnd (qShr r0 (s : Int)) 1) (L : Int))) (G 168))) ((gup_comm (by omega)).trans (congrArg (fun z => gup z 167 (qmx k (fun s => qOr (G 167 s) (qShl (qAnd (qShr l (s : Int)) 1) (L : Int))) (G 167))) (gup_gup _ _ _))))))) ?_
    refine z_aload_n d_X2_add_41 rfl rfl ?_
    refine z_getf (v := qR 167) d_X2_add_42 fl_X2_15 (xput_ob (c := (F 165)) xi_165 rfl (xsh_2 xo_165)) rfl ?_
    refine z_iload d_X2_add_45 rfl ?_
    refine z_dup2 d_X2_add_47 rfl rfl ?_
    refine z_ild k d_X2_add_48 (xput_ar (g := (qmx k (fun s => qOr (G 167 s) (qShl (qAnd (qShr l (s : Int)) 1) (L : Int))) (G 167))) xa_167 rfl) rfl (by omega) ?_
    refine z_iload_n d_X2_add_49 rfl rfl ?_
    refine z_iload d_X2_add_50 rfl ?_
    refine z_ishr d_X2_add_52 ?_
    refine z_iconst d_X2_add_53 (by decide) ?_
    refine z_iand d_X2_add_54 ?_
    refine z_aload_n d_X2_add_55 rfl rfl ?_
    refine z_getf (v := qI ((F 165) 4)) d_X2_add_56 fl_X2_24 (xput_ob (c := (F 165)) xi_165 rfl (xsh_2 xo_165)) rfl ?_
    refine z_eq rfl (qc (qi hL) rfl) rfl ?_
    refine z_ishl d_X2_add_59 ?_
    refine z_ior d_X2_add_60 ?_
    refine z_ist k d_X2_add_61 (xput_ar (g := (qmx k (fun s => qOr (G 167 s) (qShl (qAnd (qShr l (s : Int)) 1) (L : Int))) (G 167))) xa_167 rfl) (by omega) rfl (by omega) ?_
    refine z_eq rfl rfl ((xput_sa xa_167).trans (xput_cg rfl ((gup_comm (by omega)).trans (congrArg (fun z => gup z 168 (qmx k (fun s => qOr (G 168 s) (qShl (qAnd (qShr r0 (s : Int)) 1) (L : Int))) (G 168))) (gup_gup _ _ _))))) ?_
    refine z_aload_n d_X2_add_62 rfl rfl ?_
    refine z_getf (v := qR 168) d_X2_add_63 fl_X2_18 (xput_ob (c := (F 165)) xi_165 rfl (xsh_2 xo_165)) rfl ?_
    refine z_iload d_X2_add_66 rfl ?_
    refine z_dup2 d_X2_add_68 rfl rfl ?_
    refine z_ild k d_X2_add_69 (xput_ar (g := (qmx k (fun s => qOr (G 168 s) (qShl (qAnd (qShr r0 (s : Int)) 1) (L : Int))) (G 168))) xa_168 rfl) rfl (by omega) ?_
    refine z_iload_n d_X2_add_70 rfl rfl ?_
    refine z_iload d_X2_add_71 rfl ?_
    refine z_ishr d_X2_add_73 ?_
    refine z_iconst d_X2_add_74 (by decide) ?_
    refine z_iand d_X2_add_75 ?_
    refine z_aload_n d_X2_add_76 rfl rfl ?_
    refine z_getf (v := qI ((F 165) 4)) d_X2_add_77 fl_X2_24 (xput_ob (c := (F 165)) xi_165 rfl (xsh_2 xo_165)) rfl ?_
    refine z_eq rfl (qc (qi hL) rfl) rfl ?_
    refine z_ishl d_X2_add_80 ?_
    refine z_ior d_X2_add_81 ?_
    refine z_ist k d_X2_add_82 (xput_ar (g := (qmx k (fun s => qOr (G 168 s) (qShl (qAnd (qShr r0 (s : Int)) 1) (L : Int))) (G 168))) xa_168 rfl) (by omega) rfl (by omega) ?_
    refine z_eq rfl rfl ((xput_sa xa_168).trans (xput_cg rfl (gup_gup _ _ _))) ?_
    refine z_iinc (ls' := [qR 165, qI o, qI l, qI r0, qI md, qI ((k : Int) + 1)]) d_X2_add_83 rfl (by decide) (by omega) rfl ?_
    refine z_goto 13 d_X2_add_86 (by decide) ?_
    exact z_eq (qc rfl (qc rfl (qc rfl (qc rfl (qc rfl (qc (qi (by omega)) rfl)))))) rfl (xput_cg rfl (gup_cg (gup_cg (gup_cg rfl (by rw [qmx_ge (by omega)]; exact qmx_s _ _ _)) (by rw [qmx_ge (by omega)]; exact qmx_s _ _ _)) (by rw [qmx_ge (by omega)]; exact qmx_s _ _ _))) (kkk trivial)
  · show qEx M_X2_add 13 [qR 165, qI o, qI l, qI r0, qI md, qI (9 : Int)] [] (xput h F (gup (gup (gup G 166 (qmx 9 (fun s => qOr (G 166 s) (qShl (qAnd (qShr o (s : Int)) 1) (L : Int))) (G 166))) 167 (qmx 9 (fun s => qOr (G 167 s) (qShl (qAnd (qShr l (s : Int)) 1) (L : Int))) (G 167))) 168 (qmx 9 (fun s => qOr (G 168 s) (qShl (qAnd (qShr r0 (s : Int)) 1) (L : Int))) (G 168)))) r hr
    refine z_iload d_X2_add_13 rfl ?_
    refine z_bipush d_X2_add_15 (by decide) ?_
    refine z_icmp_ge 89 d_X2_add_17 (by decide) (fun hc3 => ?_) (fun hc3 => absurd hc3 (by omega))
    refine z_aload_n d_X2_add_89 rfl rfl ?_
    refine z_getf (v := qR 169) d_X2_add_90 fl_X2_21 (xput_ob (c := (F 165)) xi_165 rfl (xsh_2 xo_165)) rfl ?_
    refine z_aload_n d_X2_add_93 rfl rfl ?_
    refine z_getf (v := qI ((F 165) 4)) d_X2_add_94 fl_X2_24 (xput_ob (c := (F 165)) xi_165 rfl (xsh_2 xo_165)) rfl ?_
    refine z_eq rfl (qc (qi hL) rfl) rfl ?_
    refine z_iload d_X2_add_97 rfl ?_
    refine z_ist L d_X2_add_99 (xput_ar (g := (G 169)) xa_169 rfl) (by omega) rfl (by omega) ?_
    refine z_eq rfl rfl (xput_sa xa_169) ?_
    refine z_aload_n d_X2_add_100 rfl rfl ?_
    refine z_dup d_X2_add_101 rfl ?_
    refine z_getf (v := qI ((F 165) 4)) d_X2_add_102 fl_X2_24 (xput_ob (c := (F 165)) xi_165 rfl (xsh_2 xo_165)) rfl ?_
    refine z_eq rfl (qc (qi hL) rfl) rfl ?_
    refine z_iconst d_X2_add_105 (by decide) ?_
    refine z_iadd d_X2_add_106 (by omega) ?_
    refine z_putf (fs' := [qR 166, qR 167, qR 168, qR 169, qI ((L : Int) + 1)]) d_X2_add_107 fp_X2_24 (xput_ob (c := (F 165)) xi_165 rfl (xsh_2 xo_165)) (fun _ => rfl) (fun _ => rfl) (Nat.le_of_ble_eq_true rfl) rfl ?_
    refine z_eq rfl rfl (xput_sf (c := (qup (F 165) 4 ((L : Int) + 1))) xi_165 (xsh_2 xo_165)) ?_
    exact z_vret d_X2_add_110 rfl er eh
theorem add_bit {x o : Int} {s L i : Nat} (hs : s < 9) (hL : L < 24) (hi : i < 32) : tb (qOr x (qShl (qAnd (qShr o (s : Int)) 1) (L : Int))) i = (tb x i || (decide (i = L) && tb o s)) := by
  rw [tb_or, tb_shl _ _ (by omega), q_has o (show s < 32 by omega)]
  by_cases z : i = L
  · subst z
    rw [Nat.sub_self]
    by_cases y : tb o s = true
    · rw [if_pos y, tb_1, y]; simp [hi]
    · rw [if_neg y, tb_0]; simp [y]
  · by_cases y : tb o s = true
    · rw [if_pos y, tb_1, y]
      by_cases w : L ≤ i
      · have : ¬ i - L = 0 := by omega
        simp [z, this]
      · simp [z, w]
    · rw [if_neg y, tb_0]; simp [z]
theorem r4_0 {F : Nat → Int} {L : Nat} {a b c d : Int} : row4 F (4 * L) a b c d (4 * L) = a := by rw [row4_at, if_pos (by omega), if_pos (by omega)]
theorem r4_1 {F : Nat → Int} {L : Nat} {a b c d : Int} : row4 F (4 * L) a b c d (4 * L + 1) = b := by rw [row4_at, if_pos (by omega), if_neg (by omega), if_pos (by omega)]
theorem r4_2 {F : Nat → Int} {L : Nat} {a b c d : Int} : row4 F (4 * L) a b c d (4 * L + 2) = c := by rw [row4_at, if_pos (by omega), if_neg (by omega), if_neg (by omega), if_pos (by omega)]
theorem r4_n {F : Nat → Int} {L : Nat} {a b c d : Int} {j : Nat} (h : ¬ j / 4 = L) : row4 F (4 * L) a b c d j = F j := by rw [row4_at, if_neg h]
theorem pgZ_cg {G G' : Nat → Nat → Int} {p : Nat} {c : Int} (h : pgZ G p c) (e2 : G' (p + 2) = G (p + 2)) (e3 : G' (p + 3) = G (p + 3)) : pgZ G' p c := fun i s h1 h2 h3 => by rw [e2, e3]; exact h i s h1 h2 h3
theorem c_pgAdd {h : qH} {F G : Nat → Nat → Int} {L : Nat} {R : Nat → Int} (o l r0 md : Int) (hR : pgR F G 165 R (L : Int)) (hZ : pgZ G 165 (L : Int)) (hL2 : L < 24) : ∃ F' G', (xfr 165 169 F G F' G' ∧ pgR F' G' 165 (row4 R (4 * L) o l r0 md) ((L : Int) + 1) ∧ pgZ G' 165 ((L : Int) + 1)) ∧ qEx M_X2_add 0 [qR 165, qI o, qI l, qI r0, qI md, qU] [] (xput h F G) none (xput h F' G') := by
  refine ⟨_, _, ⟨?_, ?_, ?_⟩, c_pgAdd0 o l r0 md hR.1 hL2⟩
  · exact xfr_f (xfr_g (xfr_g (xfr_g (xfr_g (xfr_rf _ _ _ _) (by decide) (by decide)) (by decide) (by decide)) (by decide) (by decide)) (by decide) (by decide)) (by decide) (by decide)
  · obtain ⟨h1, h2, h3, h4, h5⟩ := hR
    refine ⟨by rw [gup_eq, qup_eq], by omega, by omega, fun i hi => ⟨fun s hs => ?_, ?_⟩, fun i s hc hi hs => ?_⟩
    · rw [gup_ne (show (165 + 1 : Nat) ≠ 169 by decide), gup_ne (show (165 + 1 : Nat) ≠ 168 by decide), gup_ne (show (165 + 1 : Nat) ≠ 167 by decide), gup_eq, qmx_lt hs, gup_ne (show (165 + 2 : Nat) ≠ 169 by decide), gup_ne (show (165 + 2 : Nat) ≠ 168 by decide), gup_eq, qmx_lt hs, gup_ne (show (165 + 3 : Nat) ≠ 169 by decide), gup_eq, qmx_lt hs, add_bit hs hL2 (by omega), add_bit hs hL2 (by omega), add_bit hs hL2 (by omega)]
      by_cases z : i = L
      · subst z
        have z1 := h5 i s (by omega) (by omega) hs
        have z2 := hZ i s (by omega) (by omega) hs
        rw [show tb (G 166 s) i = false from z1, show tb (G 167 s) i = false from z2.1, show tb (G 168 s) i = false from z2.2, r4_0, r4_1, r4_2]
        simp
      · have z3 := (h4 i (by omega)).1 s hs
        rw [r4_n (by omega), r4_n (by omega), r4_n (by omega)]
        simp only [z, decide_false, Bool.false_and, Bool.or_false]
        exact z3
    · rw [gup_eq, row4_at]
      by_cases z : i = L
      · subst z
        rw [qup_eq, if_pos (by omega), if_neg (by omega), if_neg (by omega), if_neg (by omega)]
      · rw [qup_ne z, if_neg (by omega)]
        exact (h4 i (by omega)).2
    · rw [gup_ne (show (165 + 1 : Nat) ≠ 169 by decide), gup_ne (show (165 + 1 : Nat) ≠ 168 by decide), gup_ne (show (165 + 1 : Nat) ≠ 167 by decide), gup_eq, qmx_lt hs, add_bit hs hL2 hi, show tb (G 166 s) i = false from h5 i s (by omega) hi hs]
      have : ¬ i = L := by omega
      simp [this]
  · intro i s hc hi hs
    have z2 := hZ i s (by omega) hi hs
    rw [gup_ne (show (165 + 2 : Nat) ≠ 169 by decide), gup_ne (show (165 + 2 : Nat) ≠ 168 by decide), gup_eq, qmx_lt hs, gup_ne (show (165 + 3 : Nat) ≠ 169 by decide), gup_eq, qmx_lt hs, add_bit hs hL2 hi, add_bit hs hL2 hi, show tb (G 167 s) i = false from z2.1, show tb (G 168 s) i = false from z2.2]
    have : ¬ i = L := by omega
    simp [this]
section ReadWords
variable {B : Nat → Int} {N : Nat} {s : pS} {W : Int}
theorem nu_sk {lo hi : Int} (ha : s.1 ≤ N) (h : s.2.1 = 0) : (nOk B N lo hi (sk B N s.1) → nuS B N lo hi s = (en B N (sk B N s.1), s.2) ∧ nuV B N s = vl B N (sk B N s.1)) ∧ (¬ nOk B N lo hi (sk B N s.1) → (nuS B N lo hi s).2 = (nER B N (sk B N s.1), ((sk B N s.1 : Nat) : Int))) := by
  unfold nuS nuV nER
  constructor
  · intro ⟨k, v⟩
    rw [qif_f (fun z => z h), qif_t k, qif_t v, qif_f (fun z => z h), qif_t k]
    exact ⟨rfl, rfl⟩
  · intro hn
    rw [qif_f (fun z => z h)]
    by_cases k : kd B N (sk B N s.1) = 2
    · rw [qif_t k, qif_f (fun v => hn ⟨k, v⟩), qif_t k]
    · rw [qif_f k, qif_f k]
theorem po_ok (ha : s.1 ≤ N) (h : s.2.1 = 0) (hk : poK B N W (sk B N s.1)) : qif (tkQ B N W s) (tkS B N W s) (nuS B N 0 7 (tkS B N W s)) = (en B N (sk B N s.1), s.2) := by
  by_cases z : kd B N (sk B N s.1) = W
  · rw [qif_t ⟨h, z⟩, tkS_y h z]
  · rw [qif_f (fun y => z y.2), tkS_n h z]
    have := ((nu_sk (s := skS B N s) (lo := 0) (hi := 7) (skS_le ha) h).1 (by show nOk B N 0 7 (sk B N (sk B N s.1)); rw [sk_sk ha]; exact hk.resolve_left z)).1
    rw [this]
    show (en B N (sk B N (sk B N s.1)), s.2) = _
    rw [sk_sk ha]
theorem po_no (ha : s.1 ≤ N) (h : s.2.1 = 0) (hk : ¬ poK B N W (sk B N s.1)) : (qif (tkQ B N W s) (tkS B N W s) (nuS B N 0 7 (tkS B N W s))).2 = (nER B N (sk B N s.1), ((sk B N s.1 : Nat) : Int)) := by
  have z : ¬ kd B N (sk B N s.1) = W := fun y => hk (Or.inl y)
  rw [qif_f (fun y => z y.2), tkS_n h z]
  have := (nu_sk (s := skS B N s) (lo := 0) (hi := 7) (skS_le ha) h).2 (by show ¬ nOk B N 0 7 (sk B N (sk B N s.1)); rw [sk_sk ha]; exact fun y => hk (Or.inr y))
  rw [this]
  show (nER B N (sk B N (sk B N s.1)), ((sk B N (sk B N s.1) : Nat) : Int)) = _
  rw [sk_sk ha]
theorem po_v {m : Int} (ha : s.1 ≤ N) (h : s.2.1 = 0) (hk : poK B N W (sk B N s.1)) : qif (tkQ B N W s) m (nuV B N (tkS B N W s)) = poV B N W m (sk B N s.1) := by
  unfold poV
  by_cases z : kd B N (sk B N s.1) = W
  · rw [qif_t ⟨h, z⟩, qif_t z]
  · rw [qif_f (fun y => z y.2), qif_f z, tkS_n h z]
    have hn := hk.resolve_left z
    have := ((nu_sk (s := skS B N s) (lo := 0) (hi := 7) (skS_le ha) h).1 (by show nOk B N 0 7 (sk B N (sk B N s.1)); rw [sk_sk ha]; exact hn)).2
    rw [this]
    show vl B N (sk B N (sk B N s.1)) = nhV B N 0 7 (sk B N s.1)
    unfold nhV
    rw [sk_sk ha, qif_t hn]
theorem one_ok (ha : s.1 ≤ N) (h : s.2.1 = 0) (hk : poK B N 8 (sk B N s.1)) : oneS B N s = (en B N (sk B N s.1), s.2) ∧ oneV B N s = qShl 1 (poV B N 8 8 (sk B N s.1)) := by
  unfold oneS oneV
  have n0 : ¬ (s.2.1 ≠ 0) := fun z => z h
  rw [qif_f n0, qif_f n0, po_ok ha h hk, ← po_v ha h hk]
  refine ⟨rfl, ?_⟩
  by_cases z : tkQ B N 8 s
  · rw [qif_t z, qif_t z]; decide
  · rw [qif_f z, qif_f z]
theorem one_no (ha : s.1 ≤ N) (h : s.2.1 = 0) (hk : ¬ poK B N 8 (sk B N s.1)) : (oneS B N s).2 = (nER B N (sk B N s.1), ((sk B N s.1 : Nat) : Int)) := by
  unfold oneS
  rw [qif_f (fun z => z h)]
  exact po_no ha h hk
theorem nER_0 {p : Nat} : nER B N p ≠ 0 := by
  unfold nER
  by_cases z : kd B N p = 2
  · rw [qif_t z]; decide
  · rw [qif_f z]; decide
theorem poV_bd {m : Int} {p : Nat} (hm : 0 ≤ m ∧ m ≤ 8) (hk : poK B N W p) (hp : p ≤ N) : 0 ≤ poV B N W m p ∧ poV B N W m p ≤ 8 := by
  unfold poV
  by_cases z : kd B N p = W
  · rw [qif_t z]; exact hm
  · have hn := hk.resolve_left z
    rw [qif_f z]
    unfold nhV
    rw [qif_t hn]
    exact ⟨hn.2.1, by have := hn.2.2; omega⟩
theorem se_or {b v : Int} (hb : 0 ≤ b ∧ b ≤ 511) (hv : 0 ≤ v ∧ v ≤ 8) : 0 ≤ qOr b (qShl 1 v) ∧ qOr b (qShl 1 v) ≤ 511 := by
  obtain ⟨k, rfl⟩ : ∃ k : Nat, v = k := ⟨v.toNat, by omega⟩
  have h2 : 2 ^ k < 2 ^ 9 := Nat.pow_lt_pow_right (by decide) (by omega)
  rw [q_bit (by omega)]
  generalize 2 ^ k = w at h2 ⊢
  rw [qOr_nat hb.1 (by omega) ⟨by omega, by omega⟩ ⟨by omega, by omega⟩]
  have h1 : b.toNat < 2 ^ 9 := by omega
  have := Nat.or_lt_two_pow h1 (show ((w : Int)).toNat < 2 ^ 9 by rw [Int.toNat_natCast]; exact h2)
  omega
theorem se_not {b : Int} (hb : 0 ≤ b ∧ b ≤ 511) : 0 ≤ qAnd 511 (qXor b (-1)) ∧ qAnd 511 (qXor b (-1)) ≤ 511 := by
  have h0 : 0 ≤ qAnd 511 (qXor b (-1)) := nn_of_tb (qAnd_R _ _) (by rw [tb_and]; rfl)
  refine ⟨h0, ?_⟩
  have hR := qAnd_R 511 (qXor b (-1))
  have : (qAnd 511 (qXor b (-1))).toNat < 2 ^ 9 := Nat.lt_pow_two_of_testBit _ (fun i hi => by
    by_cases z : i < 32
    · rw [← tb_nat h0 i z, tb_and]
      have : tb 511 i = false := by rw [tb_nat (by decide) i z]; exact Nat.testBit_lt_two_pow (Nat.lt_of_lt_of_le (by decide) (Nat.pow_le_pow_right (by decide) hi))
      rw [this]; rfl
    · exact Nat.testBit_lt_two_pow (Nat.lt_of_lt_of_le (show (qAnd 511 (qXor b (-1))).toNat < 2 ^ 32 by have := hR.2; omega) (Nat.pow_le_pow_right (by decide) (by omega))))
  omega
theorem qOr_0 {x : Int} (h : R32 x) : qOr 0 x = x := tb_ext (qOr_R _ _) h (fun k _ => by rw [tb_or, tb_0, Bool.false_or])
theorem oneV_R : R32 (oneV B N s) := by
  unfold oneV
  exact qif_or (fun z => R32 z) ⟨by decide, by decide⟩ (qif_or (fun z => R32 z) ⟨by decide, by decide⟩ (qShl_R _ _))
end ReadWords
set_option maxRecDepth 20000 in
set_option maxHeartbeats 4000000 in
theorem c_passPat {h : qH} {F G : Nat → Nat → Int} {B : Nat → Int} {N : Nat} (s : pS) (hP : rdP F G B N (sk B N s.1)) (ha : s.1 ≤ N) (hs : s.2.1 = 0) (hN : N ≤ 400) : ∃ F', (rdQ F F' ∧ ((seS B N s).2.1 = 0 → rdK F F' ∧ rdP F' G B N (sk B N (seS B N s).1) ∧ 0 ≤ seV B N s) ∧ ((seS B N s).2.1 ≠ 0 → rdE F' (seS B N s).2.1 (seS B N s).2.2)) ∧ qEx M_X4_passPattern 0 [qR 160, qU, qU, qU, qU] [] (xput h F G) (some (qI (qif ((seS B N s).2.1 = 0) (seV B N s) (-1)))) (xput h F' G) := by
  refine x_inF (fun Q hQ => ?_)
  obtain ⟨t, c, ⟨htc, htp⟩, hT, h5, h6⟩ := id hP
  have hp9 := rdP_sp hP
  refine qy (fun _ _ k9 => z_aload_n d_X4_passPattern_0 rfl rfl k9) ?_
  refine qy (fun _ _ k9 => z_getf (v := qI ((F 160) 6)) d_X4_passPattern_1 fl_X4_31 (xput_ob (c := (F 160)) xi_160 rfl (xsh_4 xo_160)) rfl k9) ?_
  refine qy (fun _ _ k9 => z_eq rfl (qc (qi h6) rfl) rfl k9) ?_
  refine qy (fun _ _ k9 => z_bipush d_X4_passPattern_4 (by decide) k9) ?_
  refine qy2 (fun _ _ => z_icmp_ne 17 d_X4_passPattern_6 (by decide)) (fun q6 => ?_) (fun q6 => ?_)
  · have hs02 : (tkS B N 7 (tkS B N 6 s)).2.1 = 0 := by rw [tk_2, tk_2]; exact hs
    have e6 : tkS B N 6 s = skS B N s := tkS_n hs q6
    have hs0n : ¬ kd B N (sk B N s.1) = 7 → sk B N (tkS B N 7 (tkS B N 6 s)).1 = sk B N s.1 := fun z => by
      rw [e6, tkS_n (s := skS B N s) hs (by show ¬ kd B N (sk B N (sk B N s.1)) = 7; rw [sk_sk ha]; exact z)]
      show sk B N (sk B N (sk B N s.1)) = _
      rw [sk_sk ha, sk_sk ha]
    have hs0y : kd B N (sk B N s.1) = 7 → sk B N (tkS B N 7 (tkS B N 6 s)).1 = nx B N (sk B N s.1) := fun z => by
      rw [e6, tkS_y (s := skS B N s) hs (by show kd B N (sk B N (sk B N s.1)) = 7; rw [sk_sk ha]; exact z)]
      show sk B N (en B N (sk B N (sk B N s.1))) = _
      rw [sk_sk ha]
      rfl
    have hq7 : tkQ B N 7 (tkS B N 6 s) ↔ kd B N (sk B N s.1) = 7 := by rw [e6, tkQ_sk ha]; exact ⟨fun z => z.2, fun z => ⟨hs, z⟩⟩
    refine qy (fun _ _ k9 => z_aload_n d_X4_passPattern_17 rfl rfl k9) ?_
    refine qy (fun _ _ k9 => z_getf (v := qI ((F 160) 6)) d_X4_passPattern_18 fl_X4_31 (xput_ob (c := (F 160)) xi_160 rfl (xsh_4 xo_160)) rfl k9) ?_
    refine qy (fun _ _ k9 => z_eq rfl (qc (qi h6) rfl) rfl k9) ?_
    refine qy (fun _ _ k9 => z_bipush d_X4_passPattern_21 (by decide) k9) ?_
    suffices kJ23 : qEy M_X4_passPattern 31 [qR 160, qU, qU, qU, qU] [qI (qb ((kd B N (sk B N s.1)) = 7))] (xput h F G) Q by
      refine qy2 (fun _ _ => z_icmp_ne 30 d_X4_passPattern_23 (by decide)) (fun hc1 => ?_) (fun hc1 => ?_)
      · refine qy (fun _ _ k9 => z_iconst d_X4_passPattern_30 (by decide) k9) ?_
        exact qy (fun _ _ k9 => z_eq rfl (qc (qi (qb_f (by omega)).symm) rfl) rfl k9) kJ23
      · refine qy (fun _ _ k9 => z_iconst d_X4_passPattern_26 (by decide) k9) ?_
        refine qy (fun _ _ k9 => z_goto 31 d_X4_passPattern_27 (by decide) k9) ?_
        exact qy (fun _ _ k9 => z_eq rfl (qc (qi (qb_t (by omega)).symm) rfl) rfl k9) kJ23
    refine qy (fun _ _ k9 => z_istore_n (ls' := [qR 160, qI (qb ((kd B N (sk B N s.1)) = 7)), qU, qU, qU]) d_X4_passPattern_31 rfl (by decide) rfl k9) ?_
    refine qy (fun _ _ k9 => z_iload_n d_X4_passPattern_32 rfl rfl k9) ?_
    refine qy2n (fun _ _ => z_ifeqB 40 d_X4_passPattern_33 (by decide)) (fun q33 => ?_) (fun q33 => ?_)
    · refine qy (fun _ _ k9 => z_iconst d_X4_passPattern_40 (by decide) k9) ?_
      refine qy (fun _ _ k9 => z_istore_n (ls' := [qR 160, qI (qb ((kd B N (sk B N s.1)) = 7)), qI 0, qU, qU]) d_X4_passPattern_41 rfl (by decide) rfl k9) ?_
      refine qy (fun _ _ k9 => z_iconst d_X4_passPattern_42 (by decide) k9) ?_
      refine qy (fun _ _ k9 => z_istore_n (ls' := [qR 160, qI (qb ((kd B N (sk B N s.1)) = 7)), qI 0, qI 0, qU]) d_X4_passPattern_43 rfl (by decide) rfl k9) ?_
      refine qy (fun _ _ k9 => z_eq (qc rfl (qc (qi (rfl)) (qc (qi (rfl)) (qc (qi (rfl)) (qc rfl rfl))))) rfl rfl k9) (y_wh5 (fun (i : Nat) (σ : pS) (fu : Nat) (b : Int) (Fa : Nat → Nat → Int) => 400 - i) (fun (i : Nat) (σ : pS) (fu : Nat) (b : Int) (Fa : Nat → Nat → Int) => [qR 160, qI (qb (kd B N (sk B N s.1) = 7)), qI b, qI (i : Int), qU]) (fun (i : Nat) (σ : pS) (fu : Nat) (b : Int) (Fa : Nat → Nat → Int) => (xput h Fa G)) (fun (i : Nat) (σ : pS) (fu : Nat) (b : Int) (Fa : Nat → Nat → Int) => (2 * i ≤ σ.1 ∧ σ.1 ≤ N ∧ N ≤ fu + σ.1) ∧ σ.2.1 = 0 ∧ (0 ≤ b ∧ b ≤ 511) ∧ (rdQ F Fa ∧ rdK F Fa ∧ rdP Fa G B N (sk B N σ.1)) ∧ seX B N s = seL B N fu (skS B N (oneS B N σ), qOr b (oneV B N σ))) 0 (tkS B N 7 (tkS B N 6 s)) N 0 F (⟨⟨by omega, tkS_le (by decide) (tkS_le (by decide) ha), by omega⟩, hs02, ⟨by decide, by decide⟩, ⟨rdQ_rf F, rdK_rf F, (by rw [hs0n q33]; exact hP)⟩, (by unfold seX; rw [qOr_0 oneV_R])⟩) (fun i σ fu b Fa hp kk => ?_))
      obtain ⟨⟨hi2, hsl, hfuel⟩, hs2, hb, ⟨hfa, hka, hPa⟩, hX⟩ := hp
      show qEy M_X4_passPattern 44 [qR 160, qI (qb (kd B N (sk B N s.1) = 7)), qI b, qI (i : Int), qU] [] (xput h Fa G) Q
      have hsk := sk_sp B hsl
      refine qy (fun _ _ k9 => z_iload_n d_X4_passPattern_44 rfl rfl k9) ?_
      refine qy (fun _ _ k9 => z_sipush d_X4_passPattern_45 (by decide) k9) ?_
      refine qy2 (fun _ _ => z_icmp_ge 110 d_X4_passPattern_48 (by decide)) (fun hc2 => absurd hc2 (by omega)) (fun hc2 => ?_)
      refine qy (fun _ _ k9 => z_aload_n d_X4_passPattern_51 rfl rfl k9) ?_
      refine qy (fun _ _ k9 => z_bipush d_X4_passPattern_52 (by decide) k9) ?_
      refine qy (fun _ _ k9 => z_bipush d_X4_passPattern_54 (by decide) k9) ?_
      obtain ⟨F1, ⟨hf1, hy1, hn1⟩, hx1⟩ := c_passOr (h := h) (F := Fa) (G := G) 8 8 hPa (by decide) (by decide)
      refine qy (fun _ _ k9 => z_cv (M1 := M_X4_passOr) d_X4_passPattern_56 lv_X4_137 k_X4_passOr [qI 8, qI 8] rfl rfl (xput_ob (c := (Fa 160)) xi_160 rfl (xsh_4 xo_160)) ⟨_, _, rfl⟩ (Nat.le_of_ble_eq_true rfl) (by decide) (by decide) (Nat.le_of_ble_eq_true rfl) hx1 k9) ?_
      refine qy (fun _ _ k9 => z_istore (ls' := [qR 160, qI (qb (kd B N (sk B N s.1) = 7)), qI b, qI (i : Int), qI (poV B N 8 8 (sk B N σ.1))]) d_X4_passPattern_59 (by decide) rfl k9) ?_
      refine qy (fun _ _ k9 => z_iload d_X4_passPattern_61 rfl k9) ?_
      refine qy (fun _ _ k9 => z_iconst d_X4_passPattern_63 (by decide) k9) ?_
      refine qy2 (fun _ _ => z_icmp_ne 69 d_X4_passPattern_64 (by decide)) (fun q64 => ?_) (fun q64 => ?_)
      · have hok : poK B N 8 (sk B N σ.1) := Classical.byContradiction (fun z => q64 ((poV_1 hsk.2.1 (by decide)).mpr z))
        have hon := one_ok hsl hs2 hok
        obtain ⟨t9, c9, hq9⟩ := (hy1 hok).2
        have hnx := rdP_sp (hy1 hok).2
        have hge : sk B N σ.1 < nx B N (sk B N σ.1) := by
          refine (nx_sp ?_).1
          rcases hok with z | z
          · exact Nat.lt_of_not_le (fun y => absurd (kd_0.mpr y) (by rw [z]; decide))
          · exact Nat.lt_of_not_le (fun y => absurd (kd_0.mpr y) (by rw [z.1]; decide))
        have hvb := poV_bd (m := 8) ⟨by decide, by decide⟩ hok hsk.2.1
        refine qy (fun _ _ k9 => z_iload_n d_X4_passPattern_69 rfl rfl k9) ?_
        refine qy (fun _ _ k9 => z_iconst d_X4_passPattern_70 (by decide) k9) ?_
        refine qy (fun _ _ k9 => z_iload d_X4_passPattern_71 rfl k9) ?_
        refine qy (fun _ _ k9 => z_ishl d_X4_passPattern_73 k9) ?_
        refine qy (fun _ _ k9 => z_ior d_X4_passPattern_74 k9) ?_
        refine qy (fun _ _ k9 => z_istore_n (ls' := [qR 160, qI (qb (kd B N (sk B N s.1) = 7)), qI (qOr b (qShl 1 (poV B N 8 8 (sk B N σ.1)))), qI (i : Int), qI (poV B N 8 8 (sk B N σ.1))]) d_X4_passPattern_75 rfl (by decide) rfl k9) ?_
        refine qy (fun _ _ k9 => z_aload_n d_X4_passPattern_76 rfl rfl k9) ?_
        refine qy (fun _ _ k9 => z_getf (v := qI ((F1 160) 6)) d_X4_passPattern_77 fl_X4_31 (xput_ob (c := (F1 160)) xi_160 rfl (xsh_4 xo_160)) rfl k9) ?_
        refine qy (fun _ _ k9 => z_eq rfl (qc (qi (hq9.2.2.2)) rfl) rfl k9) ?_
        refine qy (fun _ _ k9 => z_iconst d_X4_passPattern_80 (by decide) k9) ?_
        refine qy2 (fun _ _ => z_icmp_eq 100 d_X4_passPattern_81 (by decide)) (fun q81 => ?_) (fun q81 => ?_)
        · have hb4 : bAt B N (nx B N (sk B N σ.1)) = 44 := (kd_s (Or.inr (Or.inl ⟨rfl, rfl⟩))).mpr q81
          have hen3 := kd_en3 (Or.inr (Or.inl rfl)) hb4
          have hen4 : nx B N (sk B N σ.1) < N ∧ nx B N (nx B N (sk B N σ.1)) = sk B N (nx B N (sk B N σ.1) + 1) := ⟨hen3.1, by show sk B N (en B N (nx B N (sk B N σ.1))) = _; rw [hen3.2]⟩
          have hfu : 0 < fu := by omega
          refine qy (fun _ _ k9 => z_aload_n d_X4_passPattern_100 rfl rfl k9) ?_
          obtain ⟨F2, ⟨hf2, hk2, hp2⟩, hx2⟩ := c_adv (h := h) (F := F1) (G := G) (hy1 hok).2 (by rw [q81]; decide)
          refine qy (fun _ _ k9 => z_cv0 (M1 := M_X4_advance) d_X4_passPattern_101 lv_X4_114 k_X4_advance [] rfl rfl (xput_ob (c := (F1 160)) xi_160 rfl (xsh_4 xo_160)) ⟨_, _, rfl⟩ (Nat.le_of_ble_eq_true rfl) (by decide) (by decide) (Nat.le_of_ble_eq_true rfl) hx2 k9) ?_
          refine qy (fun _ _ k9 => z_iinc (ls' := [qR 160, qI (qb (kd B N (sk B N s.1) = 7)), qI (qOr b (qShl 1 (poV B N 8 8 (sk B N σ.1)))), qI ((i : Int) + 1), qI (poV B N 8 8 (sk B N σ.1))]) d_X4_passPattern_104 rfl (by decide) (by omega) rfl k9) ?_
          refine qy (fun _ _ k9 => z_goto 44 d_X4_passPattern_107 (by decide) k9) ?_
          exact qy (fun _ _ k9 => z_dr (qle_k rfl (qle_k rfl (qle_k rfl (qle_k (qi (by omega)) (qle_d qle_n))))) rfl rfl k9) (kk (i + 1) (nx B N (sk B N σ.1) + 1, σ.2) (fu - 1) (qOr b (qShl 1 (poV B N 8 8 (sk B N σ.1)))) F2 (⟨⟨by show 2 * (i + 1) ≤ nx B N (sk B N σ.1) + 1; omega, by show nx B N (sk B N σ.1) + 1 ≤ N; omega, by show N ≤ fu - 1 + (nx B N (sk B N σ.1) + 1); omega⟩, hs2, se_or hb (poV_bd ⟨by decide, by decide⟩ hok hsk.2.1), ⟨rdQ_tr hfa (rdQ_tr hf1 hf2), rdK_tr hka (rdK_tr (hy1 hok).1 hk2), (by show rdP _ G B N (sk B N (nx B N (sk B N σ.1) + 1)); rw [← hen4.2]; exact hp2)⟩, (by rw [hX, hon.1, hon.2, seL_s hfu ⟨hs2, hb4⟩]; rfl)⟩) (by omega))
        · have hb4 : ¬ bAt B N (nx B N (sk B N σ.1)) = 44 := fun z => q81 ((kd_s (Or.inr (Or.inl ⟨rfl, rfl⟩))).mp z)
          have hXe : seX B N s = ((nx B N (sk B N σ.1), σ.2), qOr b (qShl 1 (poV B N 8 8 (sk B N σ.1)))) := by
            rw [hX, hon.1, hon.2]
            exact seL_e (fun z => hb4 z.2)
          have hSe : seS B N s = (nx B N (sk B N σ.1), σ.2) := by unfold seS; rw [qif_f (fun z => z hs), qif_f (fun z => q6 z.2), hXe]
          have hz0 : (seS B N s).2.1 = 0 := by rw [hSe]; exact hs2
          refine qy (fun _ _ k9 => z_iload_n d_X4_passPattern_84 rfl rfl k9) ?_
          refine qy2n (fun _ _ => z_ifeqB 98 d_X4_passPattern_85 (by decide)) (fun q85 => ?_) (fun q85 => ?_)
          · refine qy (fun _ _ k9 => z_iload_n d_X4_passPattern_98 rfl rfl k9) ?_
            exact y_ret (hQ F1 (⟨rdQ_tr hfa hf1, fun _ => ⟨rdK_tr hka (hy1 hok).1, (by rw [hSe]; show rdP _ G B N (sk B N (nx B N (sk B N σ.1))); rw [(rdP_sp (hy1 hok).2).2]; exact (hy1 hok).2), (by unfold seV; rw [qif_f (fun z => z hs), qif_f (fun z => q6 z.2), qif_f (fun z => q85 (hq7.mp z)), hXe]; exact (se_or hb (poV_bd ⟨by decide, by decide⟩ hok hsk.2.1)).1)⟩, fun z => absurd hz0 z⟩)) (z_iret d_X4_passPattern_99 rfl (qsi (by rw [qif_t hz0]; unfold seV; rw [qif_f (fun z => z hs), qif_f (fun z => q6 z.2), qif_f (fun z => q85 (hq7.mp z)), hXe])) rfl)
          · refine qy (fun _ _ k9 => z_sipush d_X4_passPattern_88 (by decide) k9) ?_
            refine qy (fun _ _ k9 => z_iload_n d_X4_passPattern_91 rfl rfl k9) ?_
            refine qy (fun _ _ k9 => z_iconst d_X4_passPattern_92 (by decide) k9) ?_
            refine qy (fun _ _ k9 => z_ixor d_X4_passPattern_93 k9) ?_
            refine qy (fun _ _ k9 => z_iand d_X4_passPattern_94 k9) ?_
            refine qy (fun _ _ k9 => z_goto 99 d_X4_passPattern_95 (by decide) k9) ?_
            exact y_ret (hQ F1 (⟨rdQ_tr hfa hf1, fun _ => ⟨rdK_tr hka (hy1 hok).1, (by rw [hSe]; show rdP _ G B N (sk B N (nx B N (sk B N σ.1))); rw [(rdP_sp (hy1 hok).2).2]; exact (hy1 hok).2), (by unfold seV; rw [qif_f (fun z => z hs), qif_f (fun z => q6 z.2), qif_t (hq7.mpr q85), hXe]; exact (se_not (se_or hb (poV_bd ⟨by decide, by decide⟩ hok hsk.2.1))).1)⟩, fun z => absurd hz0 z⟩)) (z_iret d_X4_passPattern_99 rfl (qsi (by rw [qif_t hz0]; unfold seV; rw [qif_f (fun z => z hs), qif_f (fun z => q6 z.2), qif_t (hq7.mpr q85), hXe])) rfl)
      · have hno : ¬ poK B N 8 (sk B N σ.1) := (poV_1 hsk.2.1 (by decide)).mp (Classical.not_not.mp q64)
        have hon := one_no hsl hs2 hno
        have hXe : seX B N s = (skS B N (oneS B N σ), qOr b (oneV B N σ)) := by rw [hX]; exact seL_e (fun z => nER_0 (by have z2 : (oneS B N σ).2.1 = 0 := z.1; rw [hon] at z2; exact z2))
        have hse2 : (seS B N s).2 = (nER B N (sk B N σ.1), ((sk B N σ.1 : Nat) : Int)) := by unfold seS; rw [qif_f (fun z => z hs), qif_f (fun z => q6 z.2), hXe]; exact hon
        have hse : ¬ (seS B N s).2.1 = 0 := by rw [hse2]; exact nER_0
        refine qy (fun _ _ k9 => z_iconst d_X4_passPattern_67 (by decide) k9) ?_
        exact y_ret (hQ F1 (⟨rdQ_tr hfa hf1, fun z => absurd z hse, fun _ => (by rw [hse2]; exact hn1 hno)⟩)) (z_iret d_X4_passPattern_68 rfl (qsi (qif_f hse)) rfl)
    · refine qy (fun _ _ k9 => z_aload_n d_X4_passPattern_36 rfl rfl k9) ?_
      obtain ⟨F3, ⟨hf3, hk3, hp3⟩, hx3⟩ := c_adv (h := h) (F := F) (G := G) hP (by rw [q33]; decide)
      refine qy (fun _ _ k9 => z_cv0 (M1 := M_X4_advance) d_X4_passPattern_37 lv_X4_114 k_X4_advance [] rfl rfl (xput_ob (c := (F 160)) xi_160 rfl (xsh_4 xo_160)) ⟨_, _, rfl⟩ (Nat.le_of_ble_eq_true rfl) (by decide) (by decide) (Nat.le_of_ble_eq_true rfl) hx3 k9) ?_
      refine qy (fun _ _ k9 => z_iconst d_X4_passPattern_40 (by decide) k9) ?_
      refine qy (fun _ _ k9 => z_istore_n (ls' := [qR 160, qI (qb ((kd B N (sk B N s.1)) = 7)), qI 0, qU, qU]) d_X4_passPattern_41 rfl (by decide) rfl k9) ?_
      refine qy (fun _ _ k9 => z_iconst d_X4_passPattern_42 (by decide) k9) ?_
      refine qy (fun _ _ k9 => z_istore_n (ls' := [qR 160, qI (qb ((kd B N (sk B N s.1)) = 7)), qI 0, qI 0, qU]) d_X4_passPattern_43 rfl (by decide) rfl k9) ?_
      refine qy (fun _ _ k9 => z_eq (qc rfl (qc (qi (rfl)) (qc (qi (rfl)) (qc (qi (rfl)) (qc rfl rfl))))) rfl rfl k9) (y_wh5 (fun (i : Nat) (σ : pS) (fu : Nat) (b : Int) (Fa : Nat → Nat → Int) => 400 - i) (fun (i : Nat) (σ : pS) (fu : Nat) (b : Int) (Fa : Nat → Nat → Int) => [qR 160, qI (qb (kd B N (sk B N s.1) = 7)), qI b, qI (i : Int), qU]) (fun (i : Nat) (σ : pS) (fu : Nat) (b : Int) (Fa : Nat → Nat → Int) => (xput h Fa G)) (fun (i : Nat) (σ : pS) (fu : Nat) (b : Int) (Fa : Nat → Nat → Int) => (2 * i ≤ σ.1 ∧ σ.1 ≤ N ∧ N ≤ fu + σ.1) ∧ σ.2.1 = 0 ∧ (0 ≤ b ∧ b ≤ 511) ∧ (rdQ F Fa ∧ rdK F Fa ∧ rdP Fa G B N (sk B N σ.1)) ∧ seX B N s = seL B N fu (skS B N (oneS B N σ), qOr b (oneV B N σ))) 0 (tkS B N 7 (tkS B N 6 s)) N 0 F3 (⟨⟨by omega, tkS_le (by decide) (tkS_le (by decide) ha), by omega⟩, hs02, ⟨by decide, by decide⟩, ⟨hf3, hk3, (by rw [hs0y q33]; exact hp3)⟩, (by unfold seX; rw [qOr_0 oneV_R])⟩) (fun i σ fu b Fa hp kk => ?_))
      obtain ⟨⟨hi2, hsl, hfuel⟩, hs2, hb, ⟨hfa, hka, hPa⟩, hX⟩ := hp
      show qEy M_X4_passPattern 44 [qR 160, qI (qb (kd B N (sk B N s.1) = 7)), qI b, qI (i : Int), qU] [] (xput h Fa G) Q
      have hsk := sk_sp B hsl
      refine qy (fun _ _ k9 => z_iload_n d_X4_passPattern_44 rfl rfl k9) ?_
      refine qy (fun _ _ k9 => z_sipush d_X4_passPattern_45 (by decide) k9) ?_
      refine qy2 (fun _ _ => z_icmp_ge 110 d_X4_passPattern_48 (by decide)) (fun hc3 => absurd hc3 (by omega)) (fun hc3 => ?_)
      refine qy (fun _ _ k9 => z_aload_n d_X4_passPattern_51 rfl rfl k9) ?_
      refine qy (fun _ _ k9 => z_bipush d_X4_passPattern_52 (by decide) k9) ?_
      refine qy (fun _ _ k9 => z_bipush d_X4_passPattern_54 (by decide) k9) ?_
      obtain ⟨F4, ⟨hf4, hy4, hn4⟩, hx4⟩ := c_passOr (h := h) (F := Fa) (G := G) 8 8 hPa (by decide) (by decide)
      refine qy (fun _ _ k9 => z_cv (M1 := M_X4_passOr) d_X4_passPattern_56 lv_X4_137 k_X4_passOr [qI 8, qI 8] rfl rfl (xput_ob (c := (Fa 160)) xi_160 rfl (xsh_4 xo_160)) ⟨_, _, rfl⟩ (Nat.le_of_ble_eq_true rfl) (by decide) (by decide) (Nat.le_of_ble_eq_true rfl) hx4 k9) ?_
      refine qy (fun _ _ k9 => z_istore (ls' := [qR 160, qI (qb (kd B N (sk B N s.1) = 7)), qI b, qI (i : Int), qI (poV B N 8 8 (sk B N σ.1))]) d_X4_passPattern_59 (by decide) rfl k9) ?_
      refine qy (fun _ _ k9 => z_iload d_X4_passPattern_61 rfl k9) ?_
      refine qy (fun _ _ k9 => z_iconst d_X4_passPattern_63 (by decide) k9) ?_
      refine qy2 (fun _ _ => z_icmp_ne 69 d_X4_passPattern_64 (by decide)) (fun q64 => ?_) (fun q64 => ?_)
      · have hok : poK B N 8 (sk B N σ.1) := Classical.byContradiction (fun z => q64 ((poV_1 hsk.2.1 (by decide)).mpr z))
        have hon := one_ok hsl hs2 hok
        obtain ⟨t9, c9, hq9⟩ := (hy4 hok).2
        have hnx := rdP_sp (hy4 hok).2
        have hge : sk B N σ.1 < nx B N (sk B N σ.1) := by
          refine (nx_sp ?_).1
          rcases hok with z | z
          · exact Nat.lt_of_not_le (fun y => absurd (kd_0.mpr y) (by rw [z]; decide))
          · exact Nat.lt_of_not_le (fun y => absurd (kd_0.mpr y) (by rw [z.1]; decide))
        have hvb := poV_bd (m := 8) ⟨by decide, by decide⟩ hok hsk.2.1
        refine qy (fun _ _ k9 => z_iload_n d_X4_passPattern_69 rfl rfl k9) ?_
        refine qy (fun _ _ k9 => z_iconst d_X4_passPattern_70 (by decide) k9) ?_
        refine qy (fun _ _ k9 => z_iload d_X4_passPattern_71 rfl k9) ?_
        refine qy (fun _ _ k9 => z_ishl d_X4_passPattern_73 k9) ?_
        refine qy (fun _ _ k9 => z_ior d_X4_passPattern_74 k9) ?_
        refine qy (fun _ _ k9 => z_istore_n (ls' := [qR 160, qI (qb (kd B N (sk B N s.1) = 7)), qI (qOr b (qShl 1 (poV B N 8 8 (sk B N σ.1)))), qI (i : Int), qI (poV B N 8 8 (sk B N σ.1))]) d_X4_passPattern_75 rfl (by decide) rfl k9) ?_
        refine qy (fun _ _ k9 => z_aload_n d_X4_passPattern_76 rfl rfl k9) ?_
        refine qy (fun _ _ k9 => z_getf (v := qI ((F4 160) 6)) d_X4_passPattern_77 fl_X4_31 (xput_ob (c := (F4 160)) xi_160 rfl (xsh_4 xo_160)) rfl k9) ?_
        refine qy (fun _ _ k9 => z_eq rfl (qc (qi (hq9.2.2.2)) rfl) rfl k9) ?_
        refine qy (fun _ _ k9 => z_iconst d_X4_passPattern_80 (by decide) k9) ?_
        refine qy2 (fun _ _ => z_icmp_eq 100 d_X4_passPattern_81 (by decide)) (fun q81 => ?_) (fun q81 => ?_)
        · have hb4 : bAt B N (nx B N (sk B N σ.1)) = 44 := (kd_s (Or.inr (Or.inl ⟨rfl, rfl⟩))).mpr q81
          have hen3 := kd_en3 (Or.inr (Or.inl rfl)) hb4
          have hen4 : nx B N (sk B N σ.1) < N ∧ nx B N (nx B N (sk B N σ.1)) = sk B N (nx B N (sk B N σ.1) + 1) := ⟨hen3.1, by show sk B N (en B N (nx B N (sk B N σ.1))) = _; rw [hen3.2]⟩
          have hfu : 0 < fu := by omega
          refine qy (fun _ _ k9 => z_aload_n d_X4_passPattern_100 rfl rfl k9) ?_
          obtain ⟨F5, ⟨hf5, hk5, hp5⟩, hx5⟩ := c_adv (h := h) (F := F4) (G := G) (hy4 hok).2 (by rw [q81]; decide)
          refine qy (fun _ _ k9 => z_cv0 (M1 := M_X4_advance) d_X4_passPattern_101 lv_X4_114 k_X4_advance [] rfl rfl (xput_ob (c := (F4 160)) xi_160 rfl (xsh_4 xo_160)) ⟨_, _, rfl⟩ (Nat.le_of_ble_eq_true rfl) (by decide) (by decide) (Nat.le_of_ble_eq_true rfl) hx5 k9) ?_
          refine qy (fun _ _ k9 => z_iinc (ls' := [qR 160, qI (qb (kd B N (sk B N s.1) = 7)), qI (qOr b (qShl 1 (poV B N 8 8 (sk B N σ.1)))), qI ((i : Int) + 1), qI (poV B N 8 8 (sk B N σ.1))]) d_X4_passPattern_104 rfl (by decide) (by omega) rfl k9) ?_
          refine qy (fun _ _ k9 => z_goto 44 d_X4_passPattern_107 (by decide) k9) ?_
          exact qy (fun _ _ k9 => z_dr (qle_k rfl (qle_k rfl (qle_k rfl (qle_k (qi (by omega)) (qle_d qle_n))))) rfl rfl k9) (kk (i + 1) (nx B N (sk B N σ.1) + 1, σ.2) (fu - 1) (qOr b (qShl 1 (poV B N 8 8 (sk B N σ.1)))) F5 (⟨⟨by show 2 * (i + 1) ≤ nx B N (sk B N σ.1) + 1; omega, by show nx B N (sk B N σ.1) + 1 ≤ N; omega, by show N ≤ fu - 1 + (nx B N (sk B N σ.1) + 1); omega⟩, hs2, se_or hb (poV_bd ⟨by decide, by decide⟩ hok hsk.2.1), ⟨rdQ_tr hfa (rdQ_tr hf4 hf5), rdK_tr hka (rdK_tr (hy4 hok).1 hk5), (by show rdP _ G B N (sk B N (nx B N (sk B N σ.1) + 1)); rw [← hen4.2]; exact hp5)⟩, (by rw [hX, hon.1, hon.2, seL_s hfu ⟨hs2, hb4⟩]; rfl)⟩) (by omega))
        · have hb4 : ¬ bAt B N (nx B N (sk B N σ.1)) = 44 := fun z => q81 ((kd_s (Or.inr (Or.inl ⟨rfl, rfl⟩))).mp z)
          have hXe : seX B N s = ((nx B N (sk B N σ.1), σ.2), qOr b (qShl 1 (poV B N 8 8 (sk B N σ.1)))) := by
            rw [hX, hon.1, hon.2]
            exact seL_e (fun z => hb4 z.2)
          have hSe : seS B N s = (nx B N (sk B N σ.1), σ.2) := by unfold seS; rw [qif_f (fun z => z hs), qif_f (fun z => q6 z.2), hXe]
          have hz0 : (seS B N s).2.1 = 0 := by rw [hSe]; exact hs2
          refine qy (fun _ _ k9 => z_iload_n d_X4_passPattern_84 rfl rfl k9) ?_
          refine qy2n (fun _ _ => z_ifeqB 98 d_X4_passPattern_85 (by decide)) (fun q85 => ?_) (fun q85 => ?_)
          · refine qy (fun _ _ k9 => z_iload_n d_X4_passPattern_98 rfl rfl k9) ?_
            exact y_ret (hQ F4 (⟨rdQ_tr hfa hf4, fun _ => ⟨rdK_tr hka (hy4 hok).1, (by rw [hSe]; show rdP _ G B N (sk B N (nx B N (sk B N σ.1))); rw [(rdP_sp (hy4 hok).2).2]; exact (hy4 hok).2), (by unfold seV; rw [qif_f (fun z => z hs), qif_f (fun z => q6 z.2), qif_f (fun z => q85 (hq7.mp z)), hXe]; exact (se_or hb (poV_bd ⟨by decide, by decide⟩ hok hsk.2.1)).1)⟩, fun z => absurd hz0 z⟩)) (z_iret d_X4_passPattern_99 rfl (qsi (by rw [qif_t hz0]; unfold seV; rw [qif_f (fun z => z hs), qif_f (fun z => q6 z.2), qif_f (fun z => q85 (hq7.mp z)), hXe])) rfl)
          · refine qy (fun _ _ k9 => z_sipush d_X4_passPattern_88 (by decide) k9) ?_
            refine qy (fun _ _ k9 => z_iload_n d_X4_passPattern_91 rfl rfl k9) ?_
            refine qy (fun _ _ k9 => z_iconst d_X4_passPattern_92 (by decide) k9) ?_
            refine qy (fun _ _ k9 => z_ixor d_X4_passPattern_93 k9) ?_
            refine qy (fun _ _ k9 => z_iand d_X4_passPattern_94 k9) ?_
            refine qy (fun _ _ k9 => z_goto 99 d_X4_passPattern_95 (by decide) k9) ?_
            exact y_ret (hQ F4 (⟨rdQ_tr hfa hf4, fun _ => ⟨rdK_tr hka (hy4 hok).1, (by rw [hSe]; show rdP _ G B N (sk B N (nx B N (sk B N σ.1))); rw [(rdP_sp (hy4 hok).2).2]; exact (hy4 hok).2), (by unfold seV; rw [qif_f (fun z => z hs), qif_f (fun z => q6 z.2), qif_t (hq7.mpr q85), hXe]; exact (se_not (se_or hb (poV_bd ⟨by decide, by decide⟩ hok hsk.2.1))).1)⟩, fun z => absurd hz0 z⟩)) (z_iret d_X4_passPattern_99 rfl (qsi (by rw [qif_t hz0]; unfold seV; rw [qif_f (fun z => z hs), qif_f (fun z => q6 z.2), qif_t (hq7.mpr q85), hXe])) rfl)
      · have hno : ¬ poK B N 8 (sk B N σ.1) := (poV_1 hsk.2.1 (by decide)).mp (Classical.not_not.mp q64)
        have hon := one_no hsl hs2 hno
        have hXe : seX B N s = (skS B N (oneS B N σ), qOr b (oneV B N σ)) := by rw [hX]; exact seL_e (fun z => nER_0 (by have z2 : (oneS B N σ).2.1 = 0 := z.1; rw [hon] at z2; exact z2))
        have hse2 : (seS B N s).2 = (nER B N (sk B N σ.1), ((sk B N σ.1 : Nat) : Int)) := by unfold seS; rw [qif_f (fun z => z hs), qif_f (fun z => q6 z.2), hXe]; exact hon
        have hse : ¬ (seS B N s).2.1 = 0 := by rw [hse2]; exact nER_0
        refine qy (fun _ _ k9 => z_iconst d_X4_passPattern_67 (by decide) k9) ?_
        exact y_ret (hQ F4 (⟨rdQ_tr hfa hf4, fun z => absurd z hse, fun _ => (by rw [hse2]; exact hn4 hno)⟩)) (z_iret d_X4_passPattern_68 rfl (qsi (qif_f hse)) rfl)
  · have q6 := Classical.not_not.mp q6
    refine qy (fun _ _ k9 => z_aload_n d_X4_passPattern_9 rfl rfl k9) ?_
    obtain ⟨F6, ⟨hf6, hk6, hp6⟩, hx6⟩ := c_adv (h := h) (F := F) (G := G) hP (by rw [q6]; decide)
    refine qy (fun _ _ k9 => z_cv0 (M1 := M_X4_advance) d_X4_passPattern_10 lv_X4_114 k_X4_advance [] rfl rfl (xput_ob (c := (F 160)) xi_160 rfl (xsh_4 xo_160)) ⟨_, _, rfl⟩ (Nat.le_of_ble_eq_true rfl) (by decide) (by decide) (Nat.le_of_ble_eq_true rfl) hx6 k9) ?_
    refine qy (fun _ _ k9 => z_sipush d_X4_passPattern_13 (by decide) k9) ?_
    exact y_ret (hQ F6 (⟨hf6, fun _ => ⟨hk6, (by rw [(show seS B N s = (en B N (sk B N s.1), s.2) by unfold seS; rw [qif_f (fun z => z hs), qif_t ⟨hs, q6⟩, tkS_y hs q6])]; exact hp6), (by rw [show seV B N s = 511 from (by unfold seV; rw [qif_f (fun z => z hs), qif_t ⟨hs, q6⟩])]; decide)⟩, fun z => absurd (by rw [(show seS B N s = (en B N (sk B N s.1), s.2) by unfold seS; rw [qif_f (fun z => z hs), qif_t ⟨hs, q6⟩, tkS_y hs q6])]; exact hs) z⟩)) (z_iret d_X4_passPattern_16 rfl (qsi (by rw [qif_t (by rw [(show seS B N s = (en B N (sk B N s.1), s.2) by unfold seS; rw [qif_f (fun z => z hs), qif_t ⟨hs, q6⟩, tkS_y hs q6])]; exact hs), show seV B N s = 511 from (by unfold seV; rw [qif_f (fun z => z hs), qif_t ⟨hs, q6⟩])])) rfl)
