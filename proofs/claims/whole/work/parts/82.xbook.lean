/-! ===== CONTRACTS: pages by what they hold; books ===== -/
/-- nothing but the cells lo .. hi has changed -/
def xfr (lo hi : Nat) (F G F' G' : Nat → Nat → Int) : Prop := ∀ a, (a < lo ∨ hi < a) → F' a = F a ∧ G' a = G a
theorem xfr_rf (lo hi : Nat) (F G : Nat → Nat → Int) : xfr lo hi F G F G := fun _ _ => ⟨rfl, rfl⟩
theorem xfr_tr {lo hi : Nat} {F G F1 G1 F2 G2 : Nat → Nat → Int} (h1 : xfr lo hi F G F1 G1) (h2 : xfr lo hi F1 G1 F2 G2) : xfr lo hi F G F2 G2 := fun a ha => ⟨(h2 a ha).1.trans (h1 a ha).1, (h2 a ha).2.trans (h1 a ha).2⟩
theorem xfr_wd {lo hi lo' hi' : Nat} {F G F' G' : Nat → Nat → Int} (h : xfr lo hi F G F' G') (h1 : lo' ≤ lo) (h2 : hi ≤ hi') : xfr lo' hi' F G F' G' := fun a ha => h a (by omega)
theorem xfr_F {lo hi : Nat} {F G F' G' : Nat → Nat → Int} (h : xfr lo hi F G F' G') {a : Nat} (ha : a < lo ∨ hi < a) : F' a = F a := (h a ha).1
theorem xfr_G {lo hi : Nat} {F G F' G' : Nat → Nat → Int} (h : xfr lo hi F G F' G') {a : Nat} (ha : a < lo ∨ hi < a) : G' a = G a := (h a ha).2
theorem xfr_g {lo hi : Nat} {F G F' G' : Nat → Nat → Int} {a : Nat} {c : Nat → Int} (h : xfr lo hi F G F' G') (h1 : lo ≤ a) (h2 : a ≤ hi) : xfr lo hi F G F' (gup G' a c) := fun b hb => ⟨(h b hb).1, (gup_ne (by omega)).trans (h b hb).2⟩
theorem xfr_f {lo hi : Nat} {F G F' G' : Nat → Nat → Int} {a : Nat} {c : Nat → Int} (h : xfr lo hi F G F' G') (h1 : lo ≤ a) (h2 : a ≤ hi) : xfr lo hi F G (gup F' a c) G' := fun b hb => ⟨(gup_ne (by omega)).trans (h b hb).1, (h b hb).2⟩
theorem qcpy0 {f g : Nat → Int} {n j : Nat} (h : j < n) : qcpy f g (Int.toNat 0) (Int.toNat 0) n j = f j := by
  unfold qcpy
  rw [if_pos (by show 0 ≤ j ∧ j < 0 + n; omega)]
  show f (0 + (j - 0)) = f j
  rw [show 0 + (j - 0) = j by omega]
theorem c_pgCopy {h : qH} {F G : Nat → Nat → Int} {p q : Nat} {R : Nat → Int} {c : Int} (hp2 : 2 ≤ p) (hp : xk p = 2) (hq2 : 2 ≤ q) (hq : xk q = 2) (hd : p + 4 < q ∨ q + 4 < p) (hR : pgR F G q R c) : ∃ F' G', (xfr p (p + 4) F G F' G' ∧ pgR F' G' p R c) ∧ qEx M_X2_copyFrom 0 [qR p, qR q] [] (xput h F G) none (xput h F' G') := by
  refine ⟨_, _, ⟨?_, ?_⟩, c_pgCopy0 hp2 hp hq2 hq hd⟩
  · exact xfr_f (xfr_g (xfr_g (xfr_g (xfr_g (xfr_rf _ _ _ _) (by omega) (by omega)) (by omega) (by omega)) (by omega) (by omega)) (by omega) (by omega)) (by omega) (by omega)
  · refine pgR_mv hR (by rw [gup_eq, qup_eq]) (fun s hs => ?_) (fun s hs => ?_) (fun s hs => ?_) (fun s hs => ?_)
    · rw [gup_ne (by omega), gup_ne (by omega), gup_ne (by omega), gup_eq]; exact qcpy0 hs
    · rw [gup_ne (by omega), gup_ne (by omega), gup_eq]; exact qcpy0 hs
    · rw [gup_ne (by omega), gup_eq]; exact qcpy0 hs
    · rw [gup_eq]; exact qcpy0 hs
theorem c_pgClr {h : qH} {F G : Nat → Nat → Int} {p : Nat} (R : Nat → Int) (hp2 : 2 ≤ p) (hp : xk p = 2) : ∃ F' G', (xfr p (p + 4) F G F' G' ∧ pgR F' G' p R 0) ∧ qEx M_X2_clear 0 [qR p] [] (xput h F G) none (xput h F' G') := by
  refine ⟨_, _, ⟨?_, ?_⟩, c_pgClear hp2 hp⟩
  · exact xfr_f (xfr_g (xfr_g (xfr_g (xfr_rf _ _ _ _) (by omega) (by omega)) (by omega) (by omega)) (by omega) (by omega)) (by omega) (by omega)
  · refine ⟨by rw [gup_eq, qup_eq], by decide, by decide, fun i hi => absurd hi (by omega), fun i s _ _ hs => ?_⟩
    rw [gup_ne (by omega), gup_ne (by omega), gup_eq, qmx_lt hs, tb_0]
theorem pgF_cases {R : Nat → Int} {c : Int} {o l r : Nat} (h : pgF R c o l r ≠ -1) : ∃ i : Nat, i < 24 ∧ pgF R c o l r = (i : Int) ∧ (i : Int) < c := by
  unfold pgF at *
  rcases fst_cases (fun i : Nat => (i : Int) < c ∧ bkFt R i o l r) 24 with ⟨e, -⟩ | ⟨i, hi, e, h1, -⟩
  · exact absurd e h
  · exact ⟨i, hi, e, h1.1⟩
/-- the book at b holds the rules R, C of them on each page -/
def bkR (F G : Nat → Nat → Int) (b : Nat) (R C : Nat → Int) : Prop := ∀ k, k < 4 → pgR F G (b + 4 + 5 * k) (fun j => R (96 * k + j)) (C k)
theorem bkR_cg {F G F' G' : Nat → Nat → Int} {b : Nat} {R C : Nat → Int} (h : bkR F G b R C) (e : ∀ a, b + 4 ≤ a → a ≤ b + 23 → F' a = F a ∧ G' a = G a) : bkR F' G' b R C := fun k hk =>
  pgR_cg (h k hk) (by rw [(e _ (by omega) (by omega)).1]) (fun s _ => by rw [(e _ (by omega) (by omega)).2]) (fun s _ => by rw [(e _ (by omega) (by omega)).2]) (fun s _ => by rw [(e _ (by omega) (by omega)).2]) (fun s _ => by rw [(e _ (by omega) (by omega)).2])
theorem pgF_R {R C : Nat → Int} {k o l r : Nat} {i : Nat} : bkFt (fun j => R (96 * k + j)) i o l r ↔ bkFt R (24 * k + i) o l r := by
  unfold bkFt
  rw [show 4 * (24 * k + i) = 96 * k + 4 * i by omega, show 96 * k + 4 * i + 1 = 96 * k + (4 * i + 1) by omega, show 96 * k + 4 * i + 2 = 96 * k + (4 * i + 2) by omega]
theorem tb15 {k : Nat} (hk : k < 4) : tb 15 k = true := by
  have : k = 0 ∨ k = 1 ∨ k = 2 ∨ k = 3 := by omega
  rcases this with rfl | rfl | rfl | rfl <;> decide
theorem bkP_at {R C : Nat → Int} {o l r k i : Nat} (hk : k < 4) (hi : i < 24) : bkP R C 15 (-1) o l r (24 * k + i) ↔ (i : Int) < C k ∧ bkFt (fun j => R (96 * k + j)) i o l r := by
  unfold bkP bkA
  rw [pgF_R (C := C), show (24 * k + i) / 24 = k by omega, show (24 * k + i) % 24 = i by omega]
  exact ⟨fun z => ⟨z.1.2.1, z.2⟩, fun z => ⟨⟨tb15 hk, z.1, by omega⟩, z.2⟩⟩
theorem pg_no {R : Nat → Int} {c : Int} {o l r : Nat} (h : pgF R c o l r = -1) {i : Nat} (hi : i < 24) : ¬ ((i : Int) < c ∧ bkFt R i o l r) := by
  unfold pgF at h
  rcases fst_cases (fun i : Nat => (i : Int) < c ∧ bkFt R i o l r) 24 with ⟨-, q⟩ | ⟨j, hj, e, -⟩
  · exact q i hi
  · rw [e] at h; omega
theorem pg_at {R : Nat → Int} {c : Int} {o l r i : Nat} (h : pgF R c o l r = (i : Int)) : i < 24 ∧ ((i : Int) < c ∧ bkFt R i o l r) ∧ ∀ j, j < i → ¬ ((j : Int) < c ∧ bkFt R j o l r) := by
  unfold pgF at h
  rcases fst_cases (fun i : Nat => (i : Int) < c ∧ bkFt R i o l r) 24 with ⟨e, -⟩ | ⟨j, hj, e, h1, h2⟩
  · rw [e] at h; omega
  · rw [e] at h
    have : j = i := by omega
    subst this
    exact ⟨hj, h1, h2⟩
theorem bk_some {R C : Nat → Int} {o l r k i : Nat} (hk : k < 4) (ho : o < 7) (hb : ∀ q, q < k → pgF (fun j => R (96 * q + j)) (C q) o l r = -1) (h : pgF (fun j => R (96 * k + j)) (C k) o l r = (i : Int)) : bkF R C 15 (-1) o l r = ((24 * k + i : Nat) : Int) ∧ bkT R C 15 (-1) (-1) 0 o l r = sbR (fun j => R (96 * k + j)) i o := by
  obtain ⟨hi, h1, h2⟩ := pg_at h
  have e : bkF R C 15 (-1) o l r = ((24 * k + i : Nat) : Int) := by
    unfold bkF
    rw [qif_f (by omega)]
    refine fst_at (by omega) (fun j hj z => ?_) ((bkP_at hk hi).mpr h1)
    have hz := (bkP_at (k := j / 24) (i := j % 24) (by omega) (by omega)).mp (by rw [show 24 * (j / 24) + j % 24 = j by omega]; exact z)
    rcases Nat.lt_or_ge (j / 24) k with q | q
    · exact pg_no (hb _ q) (by omega) hz
    · have e2 : j / 24 = k := by omega
      rw [e2] at hz
      exact h2 (j % 24) (by omega) hz
  refine ⟨e, ?_⟩
  unfold bkT bkM sbR
  rw [e, qif_t (show ((24 * k + i : Nat) : Int) ≠ -1 by omega), qif_t (show ((24 * k + i : Nat) : Int) ≠ -1 by omega), Int.toNat_natCast, show 4 * (24 * k + i) + 3 = 96 * k + (4 * i + 3) by omega]
theorem bk_not {R C : Nat → Int} {o l r : Nat} (ho : o < 7) (hb : ∀ q, q < 4 → pgF (fun j => R (96 * q + j)) (C q) o l r = -1) : bkF R C 15 (-1) o l r = -1 ∧ bkT R C 15 (-1) (-1) 0 o l r = (o : Int) := by
  have e : bkF R C 15 (-1) o l r = -1 := by
    unfold bkF
    rw [qif_f (by omega)]
    refine fst_none (fun j hj z => ?_)
    exact pg_no (hb (j / 24) (by omega)) (by omega) ((bkP_at (k := j / 24) (i := j % 24) (by omega) (by omega)).mp (by rw [show 24 * (j / 24) + j % 24 = j by omega]; exact z))
  refine ⟨e, ?_⟩
  unfold bkT bkM
  rw [e, qif_f (show ¬ ((-1 : Int) ≠ -1) from fun z => z rfl), qif_f (show ¬ ((8 : Int) ≠ 8) from fun z => z rfl)]
theorem bk_hi {R C : Nat → Int} {c : Nat} (h1 : 567 ≤ c) (h2 : c < 648) : bkFc R C 15 (-1) c = -1 ∧ bkTc R C 15 (-1) (-1) 0 c = 7 := by
  have e7 : c / 81 = 7 := by omega
  have e : bkFc R C 15 (-1) c = -1 := by
    unfold bkFc bkF
    rw [qif_t e7]
  refine ⟨e, ?_⟩
  have e2 : bkF R C 15 (-1) (c / 81) (c / 9 % 9) (c % 9) = -1 := e
  unfold bkTc bkT bkM
  rw [e2, qif_f (show ¬ ((-1 : Int) ≠ -1) from fun z => z rfl), qif_f (show ¬ ((8 : Int) ≠ 8) from fun z => z rfl), e7]
  rfl
set_option maxRecDepth 20000 in
set_option maxHeartbeats 4000000 in
theorem c_settleCase {h : qH} {F G : Nat → Nat → Int} {b : Nat} {R C : Nat → Int} (a o l r0 : Nat) (hb2 : 2 ≤ b) (hb : xk b = 0) (ha : a < 648) (ho : o < 7) (hl : l < 9) (hr0 : r0 < 9) (hR0 : bkR F G b R C) : qEx M_X0_settleCase 0 [qR b, qI (a : Int), qI (o : Int), qI (l : Int), qI (r0 : Int), qU, qU] [] (xput h F G) none (xput h F (gup (gup G (b + 2) (qup (G (b + 2)) a (bkT R C 15 (-1) (-1) 0 o l r0))) (b + 3) (qup (G (b + 3)) a (bkF R C 15 (-1) o l r0)))) := by
  refine q_gen (fun r hr er eh => ?_)
  have hin := (bkp hb2 hb).2.1
  have hR : bkR F (gup (gup G (b + 2) (qup (G (b + 2)) a (o : Int))) (b + 3) (qup (G (b + 3)) a (-1))) b R C := bkR_cg hR0 (fun q h1 h2 => ⟨rfl, (gup_ne (by omega)).trans (gup_ne (by omega))⟩)
  refine z_aload_n d_X0_settleCase_0 rfl rfl ?_
  refine z_getf (v := qR (b + 2)) d_X0_settleCase_1 fl_X0_17 (xput_ob (c := (F b)) (bkx_in hb2 hb) rfl (xsh_0 hb)) rfl ?_
  refine z_iload_n d_X0_settleCase_4 rfl rfl ?_
  refine z_iload_n d_X0_settleCase_5 rfl rfl ?_
  refine z_ist a d_X0_settleCase_6 (xput_ar (g := (G (b + 2))) (bkx_2 hb2 hb) rfl) (by omega) rfl (by omega) ?_
  refine z_eq rfl rfl (xput_sa (bkx_2 hb2 hb)) ?_
  refine z_aload_n d_X0_settleCase_7 rfl rfl ?_
  refine z_getf (v := qR (b + 3)) d_X0_settleCase_8 fl_X0_21 (xput_ob (c := (F b)) (bkx_in hb2 hb) rfl (xsh_0 hb)) rfl ?_
  refine z_iload_n d_X0_settleCase_11 rfl rfl ?_
  refine z_iconst d_X0_settleCase_12 (by decide) ?_
  refine z_ist a d_X0_settleCase_13 (xput_ar (g := (G (b + 3))) (bkx_3 hb2 hb) (gup_ne (by omega))) (by omega) rfl (by omega) ?_
  refine z_eq rfl rfl (xput_sa (bkx_3 hb2 hb)) ?_
  refine z_iconst d_X0_settleCase_14 (by decide) ?_
  refine z_istore (ls' := [qR b, qI (a : Int), qI (o : Int), qI (l : Int), qI (r0 : Int), qI 0, qU]) d_X0_settleCase_15 (by decide) rfl ?_
  refine z_eq (qc rfl (qc rfl (qc rfl (qc rfl (qc rfl (qc (qi (rfl)) (qc rfl rfl))))))) rfl rfl (z_for 4 (fun k => [qR b, qI (a : Int), qI (o : Int), qI (l : Int), qI (r0 : Int), qI (k : Int), qU]) (fun k => (xput h F (gup (gup G (b + 2) (qup (G (b + 2)) a (o : Int))) (b + 3) (qup (G (b + 3)) a (-1))))) (fun k => ∀ q, q < k → pgF (fun j => R (96 * q + j)) (C q) o l r0 = -1) (fun q hq => absurd hq (by omega)) (fun k hik hp kkk => ?_) (fun hp => ?_))
  · show qEx M_X0_settleCase 17 [qR b, qI (a : Int), qI (o : Int), qI (l : Int), qI (r0 : Int), qI (k : Int), qU] [] (xput h F (gup (gup G (b + 2) (qup (G (b + 2)) a (o : Int))) (b + 3) (qup (G (b + 3)) a (-1)))) r hr
    refine z_iload d_X0_settleCase_17 rfl ?_
    refine z_iconst d_X0_settleCase_19 (by decide) ?_
    refine z_icmp_ge 85 d_X0_settleCase_20 (by decide) (fun hc1 => absurd hc1 (by omega)) (fun hc1 => ?_)
    refine z_aload_n d_X0_settleCase_23 rfl rfl ?_
    refine z_getf (v := qR (b + 1)) d_X0_settleCase_24 fl_X0_11 (xput_ob (c := (F b)) (bkx_in hb2 hb) rfl (xsh_0 hb)) rfl ?_
    refine z_iload d_X0_settleCase_27 rfl ?_
    refine z_ald k d_X0_settleCase_29 (Or.inl ⟨rfl, rfl, rfl⟩) (xput_ob ⟨by omega, by have := (bkp hb2 hb).2.1; omega⟩ rfl (xsh_20 (bkp hb2 hb).1)) rfl (by omega) (show (if k < 4 then some ((b + 1) + 3 + 5 * k) else none) = some (b + 4 + 5 * k) from (if_pos (by omega)).trans (congrArg some (by omega))) ?_
    refine z_iload_n d_X0_settleCase_30 rfl rfl ?_
    refine z_iload_n d_X0_settleCase_31 rfl rfl ?_
    refine z_iload d_X0_settleCase_32 rfl ?_
    refine z_cv (M1 := M_X2_firstFit) d_X0_settleCase_34 lv_X0_49 k_X2_firstFit [qI (o : Int), qI (l : Int), qI (r0 : Int)] rfl rfl (xput_ob (c := (F (b + 4 + 5 * k))) (pgx_in (by omega) ((bkp hb2 hb).2.2 k (by omega))) rfl (xsh_2 ((bkp hb2 hb).2.2 k (by omega)))) ⟨_, _, rfl⟩ (Nat.le_of_ble_eq_true rfl) (by decide) (by decide) (Nat.le_of_ble_eq_true rfl) (c_pgFit o l r0 (by omega) ((bkp hb2 hb).2.2 k (by omega)) (hR k (by omega)) (by omega) (by omega) (by omega)) ?_
    refine z_istore (ls' := [qR b, qI (a : Int), qI (o : Int), qI (l : Int), qI (r0 : Int), qI (k : Int), qI (pgF (fun j => R (96 * k + j)) (C k) o l r0)]) d_X0_settleCase_37 (by decide) rfl ?_
    refine z_iload d_X0_settleCase_39 rfl ?_
    refine z_iconst d_X0_settleCase_41 (by decide) ?_
    refine z_icmp_eq 79 d_X0_settleCase_42 (by decide) (fun q1 => ?_) (fun q1 => ?_)
    · refine z_iinc (ls' := [qR b, qI (a : Int), qI (o : Int), qI (l : Int), qI (r0 : Int), qI ((k : Int) + 1), qI (pgF (fun j => R (96 * k + j)) (C k) o l r0)]) d_X0_settleCase_79 rfl (by decide) (by omega) rfl ?_
      refine z_goto 17 d_X0_settleCase_82 (by decide) ?_
      exact z_dr (qle_k rfl (qle_k rfl (qle_k rfl (qle_k rfl (qle_k rfl (qle_k (qi (by omega)) (qle_d qle_n))))))) rfl rfl (kkk (q_lts hp q1))
    · obtain ⟨i, hi24, ei, hci⟩ := pgF_cases q1
      have hRk := hR k (by omega)
      refine z_eq (qc rfl (qc rfl (qc rfl (qc rfl (qc rfl (qc rfl (qc (qi (show (pgF (fun j => R (96 * k + j)) (C k) o l r0) = (i : Int) from ei)) rfl))))))) rfl rfl ?_
      refine z_aload_n d_X0_settleCase_45 rfl rfl ?_
      refine z_getf (v := qR (b + 2)) d_X0_settleCase_46 fl_X0_17 (xput_ob (c := (F b)) (bkx_in hb2 hb) rfl (xsh_0 hb)) rfl ?_
      refine z_iload_n d_X0_settleCase_49 rfl rfl ?_
      refine z_aload_n d_X0_settleCase_50 rfl rfl ?_
      refine z_getf (v := qR (b + 1)) d_X0_settleCase_51 fl_X0_11 (xput_ob (c := (F b)) (bkx_in hb2 hb) rfl (xsh_0 hb)) rfl ?_
      refine z_iload d_X0_settleCase_54 rfl ?_
      refine z_ald k d_X0_settleCase_56 (Or.inl ⟨rfl, rfl, rfl⟩) (xput_ob ⟨by omega, by have := (bkp hb2 hb).2.1; omega⟩ rfl (xsh_20 (bkp hb2 hb).1)) rfl (by omega) (show (if k < 4 then some ((b + 1) + 3 + 5 * k) else none) = some (b + 4 + 5 * k) from (if_pos (by omega)).trans (congrArg some (by omega))) ?_
      refine z_iload d_X0_settleCase_57 rfl ?_
      refine z_iload_n d_X0_settleCase_59 rfl rfl ?_
      refine z_cv (M1 := M_X2_mindBy) d_X0_settleCase_60 lv_X0_53 k_X2_mindBy [qI (i : Int), qI (o : Int)] rfl rfl (xput_ob (c := (F (b + 4 + 5 * k))) (pgx_in (by omega) ((bkp hb2 hb).2.2 k (by omega))) rfl (xsh_2 ((bkp hb2 hb).2.2 k (by omega)))) ⟨_, _, rfl⟩ (Nat.le_of_ble_eq_true rfl) (by decide) (by decide) (Nat.le_of_ble_eq_true rfl) (c_pgMind i (o : Int) (by omega) ((bkp hb2 hb).2.2 k (by omega)) hRk hci) ?_
      refine z_ist a d_X0_settleCase_63 (xput_ar (g := (qup (G (b + 2)) a (o : Int))) (bkx_2 hb2 hb) ((gup_ne (by omega)).trans (gup_eq _ _))) (by omega) rfl (by omega) ?_
      refine z_eq rfl rfl ((xput_sa (bkx_2 hb2 hb)).trans (xput_cg rfl ((gup_comm (by omega)).trans (congrArg (fun z => gup z (b + 3) (qup (G (b + 3)) a (-1))) (gup_gup _ _ _))))) ?_
      refine z_aload_n d_X0_settleCase_64 rfl rfl ?_
      refine z_getf (v := qR (b + 3)) d_X0_settleCase_65 fl_X0_21 (xput_ob (c := (F b)) (bkx_in hb2 hb) rfl (xsh_0 hb)) rfl ?_
      refine z_iload_n d_X0_settleCase_68 rfl rfl ?_
      refine z_bipush d_X0_settleCase_69 (by decide) ?_
      refine z_iload d_X0_settleCase_71 rfl ?_
      refine z_imul d_X0_settleCase_73 (by omega) ?_
      refine z_iload d_X0_settleCase_74 rfl ?_
      refine z_iadd d_X0_settleCase_76 (by omega) ?_
      refine z_ist a d_X0_settleCase_77 (xput_ar (g := (qup (G (b + 3)) a (-1))) (bkx_3 hb2 hb) (gup_eq _ _)) (by omega) rfl (by omega) ?_
      refine z_eq rfl rfl ((xput_sa (bkx_3 hb2 hb)).trans (xput_cg rfl (gup_gup _ _ _))) ?_
      exact z_vret d_X0_settleCase_78 rfl er (eh.trans (xput_cg rfl (gup_cg (gup_cg rfl (by rw [qup_qup, (bk_some (by omega) ho hp ei).2])) (by rw [qup_qup, (bk_some (by omega) ho hp ei).1]; rfl))))
  · show qEx M_X0_settleCase 17 [qR b, qI (a : Int), qI (o : Int), qI (l : Int), qI (r0 : Int), qI (4 : Int), qU] [] (xput h F (gup (gup G (b + 2) (qup (G (b + 2)) a (o : Int))) (b + 3) (qup (G (b + 3)) a (-1)))) r hr
    refine z_iload d_X0_settleCase_17 rfl ?_
    refine z_iconst d_X0_settleCase_19 (by decide) ?_
    refine z_icmp_ge 85 d_X0_settleCase_20 (by decide) (fun hc2 => ?_) (fun hc2 => absurd hc2 (by omega))
    exact z_vret d_X0_settleCase_85 rfl er (eh.trans (xput_cg rfl (gup_cg (gup_cg rfl (by rw [(bk_not ho hp).2])) (by rw [(bk_not ho hp).1]))))
set_option maxRecDepth 20000 in
set_option maxHeartbeats 4000000 in
theorem c_settle0 {h : qH} {F G : Nat → Nat → Int} {b : Nat} {R C : Nat → Int} (hb2 : 2 ≤ b) (hb : xk b = 0) (hR : bkR F G b R C) : qEx M_X0_settle 0 [qR b, qU] [] (xput h F G) none (xput h F (gup (gup G (b + 2) (qmx 567 (bkTc R C 15 (-1) (-1) 0) (G (b + 2)))) (b + 3) (qmx 567 (bkFc R C 15 (-1)) (G (b + 3))))) := by
  refine q_gen (fun r hr er eh => ?_)
  refine z_iconst d_X0_settle_0 (by decide) ?_
  refine z_istore_n (ls' := [qR b, qI 0]) d_X0_settle_1 rfl (by decide) rfl ?_
  refine z_eq (qc rfl (qc (qi (rfl)) rfl)) rfl (xput_cg rfl (by rw [qmx_0, qmx_0, gup_self rfl, gup_self rfl])) (z_for 567 (fun i => [qR b, qI (i : Int)]) (fun i => (xput h F (gup (gup G (b + 2) (qmx i (bkTc R C 15 (-1) (-1) 0) (G (b + 2)))) (b + 3) (qmx i (bkFc R C 15 (-1)) (G (b + 3)))))) (fun i => True) trivial (fun i hii hp kki => ?_) (fun hp => ?_))
  · show qEx M_X0_settle 2 [qR b, qI (i : Int)] [] (xput h F (gup (gup G (b + 2) (qmx i (bkTc R C 15 (-1) (-1) 0) (G (b + 2)))) (b + 3) (qmx i (bkFc R C 15 (-1)) (G (b + 3))))) r hr
    refine z_iload_n d_X0_settle_2 rfl rfl ?_
    refine z_sipush d_X0_settle_3 (by decide) ?_
    refine z_icmp_ge 32 d_X0_settle_6 (by decide) (fun hc1 => absurd hc1 (by omega)) (fun hc1 => ?_)
    refine z_aload_n d_X0_settle_9 rfl rfl ?_
    refine z_iload_n d_X0_settle_10 rfl rfl ?_
    refine z_iload_n d_X0_settle_11 rfl rfl ?_
    refine z_cs (M1 := M_X11_ownOf) d_X0_settle_12 ls_X0_35 k_X11_ownOf [qI (i : Int)] rfl rfl (Nat.le_of_ble_eq_true rfl) (by decide) (by decide) (Nat.le_of_ble_eq_true rfl) (z_end (c_ownOf (i : Int) (by omega)) (show _ = some (qI (((i / 81) : Nat) : Int)) from congrArg (fun z => some (qI z)) (by omega)) rfl) ?_
    refine z_iload_n d_X0_settle_15 rfl rfl ?_
    refine z_cs (M1 := M_X11_leftOf) d_X0_settle_16 ls_X0_39 k_X11_leftOf [qI (i : Int)] rfl rfl (Nat.le_of_ble_eq_true rfl) (by decide) (by decide) (Nat.le_of_ble_eq_true rfl) (z_end (c_leftOf (i : Int) (by omega)) (show _ = some (qI (((i / 9 % 9) : Nat) : Int)) from congrArg (fun z => some (qI z)) (by omega)) rfl) ?_
    refine z_iload_n d_X0_settle_19 rfl rfl ?_
    refine z_cs (M1 := M_X11_rightOf) d_X0_settle_20 ls_X0_42 k_X11_rightOf [qI (i : Int)] rfl rfl (Nat.le_of_ble_eq_true rfl) (by decide) (by decide) (Nat.le_of_ble_eq_true rfl) (z_end (c_rightOf (i : Int) (by omega)) (show _ = some (qI (((i % 9) : Nat) : Int)) from congrArg (fun z => some (qI z)) (by omega)) rfl) ?_
    have hx9 := c_settleCase (h := h) (F := F) (G := (gup (gup G (b + 2) (qmx i (bkTc R C 15 (-1) (-1) 0) (G (b + 2)))) (b + 3) (qmx i (bkFc R C 15 (-1)) (G (b + 3))))) i (i / 81) (i / 9 % 9) (i % 9) hb2 hb (by omega) (by omega) (by omega) (by omega) (bkR_cg hR (fun q h1 h2 => ⟨rfl, (gup_ne (by omega)).trans (gup_ne (by omega))⟩))
    rw [gup_eq, gup_ne (show b + 2 ≠ b + 3 by omega), gup_eq] at hx9
    refine z_cv0 (M1 := M_X0_settleCase) d_X0_settle_23 lv_X0_45 k_X0_settleCase [qI (i : Int), qI (((i / 81) : Nat) : Int), qI (((i / 9 % 9) : Nat) : Int), qI (((i % 9) : Nat) : Int)] rfl rfl (xput_ob (c := (F b)) (bkx_in hb2 hb) rfl (xsh_0 hb)) ⟨_, _, rfl⟩ (Nat.le_of_ble_eq_true rfl) (by decide) (by decide) (Nat.le_of_ble_eq_true rfl) hx9 ?_
    refine z_eq rfl rfl (xput_cg rfl ((congrArg (fun z => gup z (b + 3) (qup (qmx i (bkFc R C 15 (-1)) (G (b + 3))) i (bkF R C 15 (-1) (i / 81) (i / 9 % 9) (i % 9)))) ((gup_comm (by omega)).trans (congrArg (fun z => gup z (b + 3) (qmx i (bkFc R C 15 (-1)) (G (b + 3)))) (gup_gup _ _ _)))).trans (gup_gup _ _ _))) ?_
    refine z_iinc (ls' := [qR b, qI ((i : Int) + 1)]) d_X0_settle_26 rfl (by decide) (by omega) rfl ?_
    refine z_goto 2 d_X0_settle_29 (by decide) ?_
    exact z_eq (qc rfl (qc (qi (by omega)) rfl)) rfl (xput_cg rfl (gup_cg (gup_cg rfl (qmx_s _ _ _)) (qmx_s _ _ _))) (kki trivial)
  · show qEx M_X0_settle 2 [qR b, qI (567 : Int)] [] (xput h F (gup (gup G (b + 2) (qmx 567 (bkTc R C 15 (-1) (-1) 0) (G (b + 2)))) (b + 3) (qmx 567 (bkFc R C 15 (-1)) (G (b + 3))))) r hr
    refine z_iload_n d_X0_settle_2 rfl rfl ?_
    refine z_sipush d_X0_settle_3 (by decide) ?_
    refine z_icmp_ge 32 d_X0_settle_6 (by decide) (fun hc2 => ?_) (fun hc2 => absurd hc2 (by omega))
    exact z_vret d_X0_settle_32 rfl er eh
theorem c_settle {h : qH} {F G : Nat → Nat → Int} {b : Nat} {R C : Nat → Int} (hb2 : 2 ≤ b) (hb : xk b = 0) (hR : bkR F G b R C) (hS : ∀ c, 567 ≤ c → c < 648 → G (b + 2) c = 7 ∧ G (b + 3) c = -1) : ∃ G', ((∀ a, a ≠ b + 2 → a ≠ b + 3 → G' a = G a) ∧ bkR F G' b R C ∧ (∀ c, c < 648 → G' (b + 2) c = bkTc R C 15 (-1) (-1) 0 c) ∧ ∀ c, c < 648 → G' (b + 3) c = bkFc R C 15 (-1) c) ∧ qEx M_X0_settle 0 [qR b, qU] [] (xput h F G) none (xput h F G') := by
  refine ⟨_, ⟨fun a h1 h2 => by rw [gup_ne h2, gup_ne h1], bkR_cg hR (fun q h1 h2 => ⟨rfl, (gup_ne (by omega)).trans (gup_ne (by omega))⟩), fun c hc => ?_, fun c hc => ?_⟩, c_settle0 hb2 hb hR⟩
  · rw [gup_ne (by omega), gup_eq]
    rcases Nat.lt_or_ge c 567 with q | q
    · rw [qmx_lt q]
    · rw [qmx_ge (by omega), (bk_hi q hc).2, (hS c q hc).1]
  · rw [gup_eq]
    rcases Nat.lt_or_ge c 567 with q | q
    · rw [qmx_lt q]
    · rw [qmx_ge (by omega), (bk_hi q hc).1, (hS c q hc).2]
