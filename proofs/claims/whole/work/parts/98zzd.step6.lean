/-! ===== STEPS, sixth batch: texts ===== -/
theorem utl_lt {p : Nat → Prop} {b k : Nat} (h : k < utl p b) : ¬ p k := by
  unfold utl at h
  rcases fst_cases p (b + 1) with ⟨e, _⟩ | ⟨i, _, e, _, hm⟩
  · rw [e] at h; exact absurd h (Nat.not_lt_zero _)
  · rw [e, Int.toNat_natCast] at h; exact hm k h
section TextBounds
variable {B : Nat → Int} {N : Nat} {s : pS}
theorem ln_bd (ha : s.1 ≤ N) (h : (lnS B N s).2.1 = 0) : (∀ m, m < 3 → 0 ≤ lpV B N s m ∧ lpV B N s m ≤ 511) ∧ 0 ≤ lpV B N s 3 ∧ lpV B N s 3 ≤ 8 := by
  have e1 : (seS B N s).2.1 = 0 := Classical.byContradiction (fun z => z (by rw [← ln_1 z]; exact h))
  have e2 : (seS B N (seS B N s)).2.1 = 0 := Classical.byContradiction (fun z => z (by rw [← ln_2 z]; exact h))
  have e3 : (seS B N (seS B N (seS B N s))).2.1 = 0 := Classical.byContradiction (fun z => z (by rw [← ln_3 z]; exact h))
  refine ⟨fun m hm => ?_, ?_⟩
  · obtain rfl | rfl | rfl : m = 0 ∨ m = 1 ∨ m = 2 := by omega
    · exact seV_bd ha e1
    · exact seV_bd (seS_le ha) e2
    · exact seV_bd (seS_le (seS_le ha)) e3
  · have hB : (lnB B N s).2.1 = 0 := (gn_0 h).1
    show 0 ≤ lnM B N s ∧ lnM B N s ≤ 8
    unfold lnB at hB
    unfold lnM
    by_cases z : tkQ B N 9 (lnA B N s)
    · rw [qif_t z]; decide
    · rw [qif_f z] at hB ⊢
      have := nu_ok hB
      omega
theorem pg_ok (h : (pgS B N (pgJ B N)).2.1 = 0) {i : Nat} (hi : i < pgJ B N) : (lnS B N (pgS B N i)).2.1 = 0 := by
  have hn : (pgS B N (i + 1)).2.1 = 0 := by
    by_cases z : i + 1 < pgJ B N
    · exact (Classical.not_not.mp (utl_lt z)).1
    · rw [show i + 1 = pgJ B N by omega]; exact h
  rw [pgS_s] at hn
  unfold lpS at hn
  by_cases z : ckK B N i (pgS B N i).1 ≠ 0
  · rw [qif_t z] at hn; exact absurd hn z
  · rw [qif_f z] at hn; exact hn
theorem pn_ok (h : (pnS B N (pnJ B N)).2.1 = 0) {i : Nat} (hi : i < pnJ B N) : (plS B N (pnS B N i)).2.1 = 0 := by
  have hn : (pnS B N (i + 1)).2.1 = 0 := by
    by_cases z : i + 1 < pnJ B N
    · exact (Classical.not_not.mp (utl_lt z)).1
    · rw [show i + 1 = pnJ B N by omega]; exact h
  have hn : (lqS B N i (pnS B N i)).2.1 = 0 := hn
  unfold lqS at hn
  by_cases z : ckP B N 10 i (pnS B N i).1 ≠ 0
  · rw [qif_t z] at hn; exact absurd hn z
  · rw [qif_f z] at hn; exact hn
theorem pl_bd (h : (plS B N s).2.1 = 0) : actOk (lqV B N s 1) (lqV B N s 3) ∧ (0 ≤ lqV B N s 2 ∧ lqV B N s 2 ≤ 31) ∧ becV (lqV B N s 1) (lqV B N s 3) = lqV B N s 3 := by
  show actOk (plW B N s) (plM B N s) ∧ (0 ≤ nuV B N (pl3 B N s) ∧ nuV B N (pl3 B N s) ≤ 31) ∧ becV (plW B N s) (plM B N s) = plM B N s
  have h5 : (pl5 B N s).2.1 = 0 := (gn_0 h).1
  have key : (pl4 B N s).2.1 = 0 ∧ 0 ≤ plM B N s ∧ plM B N s ≤ 7 ∧ (plW B N s = 5 → plM B N s ≤ 3) ∧ becV (plW B N s) (plM B N s) = plM B N s := by
    unfold pl5 at h5
    unfold plM becV
    by_cases z : plW B N s = 0
    · rw [qif_t z] at h5 ⊢
      have := nu_ok h5
      rw [if_pos z]
      exact ⟨this.1, this.2.2.2.1, by omega, fun y => by omega, rfl⟩
    · rw [qif_f z] at h5 ⊢
      rw [if_neg z]
      by_cases y : plW B N s = 5
      · rw [qif_t y] at h5 ⊢
        have := nu_ok h5
        rw [if_pos y]
        exact ⟨this.1, this.2.2.2.1, by omega, fun _ => by omega, rfl⟩
      · rw [qif_f y] at h5 ⊢
        rw [if_neg y]
        exact ⟨h5, by decide, by decide, fun q => absurd q y, rfl⟩
  obtain ⟨k1, k2, k3, k4, k5⟩ := key
  have h4 := nu_ok (show (nuS B N 0 31 (pl3 B N s)).2.1 = 0 from k1)
  have h3 : (pl3 B N s).2.1 = 0 := h4.1
  have hW : plW B N s ≠ -1 := fun z => by
    unfold pl3 at h3
    rw [qif_t z] at h3
    unfold wrS at h3
    by_cases y : (acS B N (pl1 B N s)).2.1 = 0
    · rw [if_pos y] at h3; exact absurd h3 (show ¬ ((1 : Int) = 0) by decide)
    · rw [if_neg y] at h3; exact y h3
  have hW2 : 0 ≤ plW B N s ∧ plW B N s ≤ 5 := by
    unfold plW acV at hW ⊢
    by_cases y : acQ B N (pl1 B N s)
    · rw [qif_t y]; have := y.2; omega
    · rw [qif_f y] at hW; exact absurd rfl hW
  exact ⟨⟨hW2, k2, k3, k4⟩, ⟨h4.2.2.2.1, h4.2.2.2.2.1⟩, k5⟩
end TextBounds
theorem kp_st2 {F G F' G' : Nat → Nat → Int} {f f' : Nat → Int} {g g' : Nat → Nat → Int} (h : stG F G 3 (g 2) (g 5) (g 3) (g 6) (f 18) (f 19) (f 27) (g 7) (g 9) (g 11) (g 13) (g 15)) (e : ∀ a, 3 ≤ a → a ≤ 64 → F' a = F a ∧ G' a = G a) (ef : f' 18 = f 18 ∧ f' 19 = f 19 ∧ f' 27 = f 27) (eg : ∀ j, j ∈ [2, 3, 5, 6, 7, 9, 11, 13, 15] → g' j = g j) : stG F' G' 3 (g' 2) (g' 5) (g' 3) (g' 6) (f' 18) (f' 19) (f' 27) (g' 7) (g' 9) (g' 11) (g' 13) (g' 15) := by
  rw [ef.1, ef.2.1, ef.2.2, eg 2 (by decide), eg 5 (by decide), eg 3 (by decide), eg 6 (by decide), eg 7 (by decide), eg 9 (by decide), eg 11 (by decide), eg 13 (by decide), eg 15 (by decide)]
  exact stG_cg h (fun a h1 h2 => e a h1 (by omega))
theorem nin {j : Nat} {l : List Nat} (h : ∀ x, x ∈ l → j ≠ x) : j ∉ l := fun z => h j z rfl
theorem tx_im {F G F' G' : Nat → Nat → Int} {f f' : Nat → Int} {g g' : Nat → Nat → Int} (hR : Rel F G f g) (e2 : F' 2 = F 2) (e : ∀ a, 65 ≤ a → a ≤ 126 → F' a = F a ∧ G' a = G a) (ef : ∀ j, j ∉ [1, 2, 3, 4, 5, 6, 7, 18, 19, 20, 25] → f' j = f j) (eg : ∀ j, 11 ≤ j → g' j = g j) : imG F' G' f' g' := kp_im hR.2.2.2.1 (by rw [e2]) e (fun k h1 h2 => ef k (by simp only [List.mem_cons, List.not_mem_nil, or_false, not_or]; omega)) (fun j h1 h2 => eg j (by omega))
theorem tx_rd {G F' G' : Nat → Nat → Int} {f' : Nat → Int} {g g' : Nat → Nat → Int} {L : Nat} {a b : Int} (h : ∀ j, j < 400 → G 161 j = g 1 j) (h1 : F' 160 1 = 0) (h7 : F' 160 7 = a) (h8 : F' 160 8 = b) (hL : L ≤ 16) (h170 : F' 170 2 = (L : Int)) (eG : G' 161 = G 161) (eg : g' 1 = g 1) (f1 : f' 1 = 0) (f6 : f' 6 = a) (f7 : f' 7 = b) : rdG F' G' f' g' := ⟨0, L, ⟨f1, by decide, h1, fun j hj => by rw [eG, eg]; exact h j hj⟩, ⟨h7.trans f6.symm, h8.trans f7.symm⟩, hL, h170⟩
theorem tx_p0 {F G F' G' : Nat → Nat → Int} {f f' : Nat → Int} {g g' : Nat → Nat → Int} (hR : Rel F G f g) (e : F' 127 = qup (F 127) 3 0) (h : f' 25 = 0) : paG F' G' f' g' := by
  obtain ⟨b, ⟨p1, p2, p3⟩, _⟩ := hR.2.2.2.2.1
  exact ⟨0, ⟨h, by decide, psR_0 p3 e⟩, fun t ht => absurd ht (by omega), fun t ht => absurd ht (by omega), fun hb => absurd hb (by omega)⟩
theorem lp_if {V : Nat → Nat → Int} {R : Nat → Int} {k J i m : Nat} (hm : m < 4) (hk : i / 24 = k) (hj : i % 24 < J) : (if 96 * k ≤ 4 * i + m ∧ 4 * i + m < 96 * k + 4 * J then V ((4 * i + m - 96 * k) / 4) ((4 * i + m - 96 * k) % 4) else R (4 * i + m)) = V (i % 24) m := by
  rw [if_pos (by omega), show (4 * i + m - 96 * k) / 4 = i % 24 by omega, show (4 * i + m - 96 * k) % 4 = m by omega]
theorem st_text_pg (k : Nat) (hk : k < 4) : Stq M_X11_text M_X12_text [qI (k : Int), qU] [qI (k : Int), qU] := by
  intro h F G f g hR
  obtain ⟨N, L, ⟨r1, r2, r3⟩, ⟨r5, r6⟩, r7, r8⟩ := hR.2.2.1
  obtain ⟨F', G', ⟨x1, x2, ⟨x3, x4, x5⟩, ⟨L2, x6, x61⟩, x7, x8⟩, k1⟩ := xc_text_pg (h := rput h 220 f g) r3 r2 r8 r7 hk (rl_K hR) (rl_S7 hR)
  obtain ⟨f', g', ⟨⟨⟨y1, y2, y3, y4⟩, y5, y6⟩, y7, y8, y9⟩, k2⟩ := c_text_pg (h := xput h F' G') (m := 220) (f := f) (g := g) k (by decide) hR.1 r1 r2 hk
  refine ⟨_, F', G', f', g', ?_, k1, k2⟩
  have rd : rdG F' G' f' g' := tx_rd r3.2 x3 x4 x5 x6 x61 (x2 161 (by decide) (by decide)) (y7 1 (by decide)) y2 y3 y4
  have im : imG F' G' f' g' := tx_im hR (x1 2 (by decide) (by decide) (by decide) (by decide)) (fun a h1 h2 => ⟨x1 a (by omega) (by omega) (by omega) (by omega), x2 a (by omega) (by omega)⟩) y1 (fun j hj => y7 j (by simp only [List.mem_cons, List.not_mem_nil, or_false, not_or]; omega))
  have th : thi G' := kp_th hR.2.2.2.2.2.1 (x2 183 (by decide) (by decide)) (x2 184 (by decide) (by decide))
  have fl : F' 216 0 = 0 ∨ F' 216 0 = 1 := by rw [x1 216 (by decide) (by decide) (by decide) (by decide)]; exact hR.2.2.2.2.2.2
  have f0 : f' 0 = 0 := (y1 0 (by decide)).trans hR.1
  have f27 : f' 27 = f 27 := y1 27 (by decide)
  by_cases e : (pgS (g 1) N (pgJ (g 1) N)).2.1 = 0
  · obtain ⟨u1, u2, u3, u4, u5⟩ := x8 e
    obtain ⟨w1, w2, w3, w4⟩ := y9 e
    refine ⟨f0, ?_, rd, im, tx_p0 hR u2 w1, th, fl⟩
    have hV : ∀ i, i < pgJ (g 1) N → (∀ m, m < 3 → 0 ≤ lpV (g 1) N (pgS (g 1) N i) m ∧ lpV (g 1) N (pgS (g 1) N i) m ≤ 511) ∧ 0 ≤ lpV (g 1) N (pgS (g 1) N i) 3 ∧ lpV (g 1) N (pgS (g 1) N i) 3 ≤ 8 := fun i hi => ln_bd (pgS_le i) (pg_ok e hi)
    obtain ⟨_, ⟨pl, tl, ll, ml, TL, ⟨⟨⟨s1, s2, s3⟩, s4, s5, s6, s7, s8, s9⟩, s10⟩, ⟨n1, n2, n3, n4⟩, t1, ⟨o1, o2, o3, o4, o5⟩, q1, q2⟩, _⟩ := hR
    have E : ∀ a, 28 ≤ a → a ≤ 64 → F' a = F a ∧ G' a = G a := fun a h1 h2 => ⟨x1 a (by omega) (by omega) (by omega) (by omega), x2 a (by omega) (by omega)⟩
    have hO : bkOk (fun j => if 96 * k ≤ j ∧ j < 96 * k + 4 * pgJ (g 1) N then lpV (g 1) N (pgS (g 1) N ((j - 96 * k) / 4)) ((j - 96 * k) % 4) else g 2 j) (qup (g 5) k (pgJ (g 1) N : Int)) := fun i hi hc => by
      by_cases z : i / 24 = k
      · rw [z, qup_eq] at hc
        have := (hV (i % 24) (by omega)).2
        have ev := lp_if (V := fun a b => lpV (g 1) N (pgS (g 1) N a) b) (R := g 2) (k := k) (J := pgJ (g 1) N) (i := i) (m := 3) (by decide) z (by omega)
        exact ⟨Int.le_trans this.1 (Int.le_of_eq ev.symm), Int.le_trans (Int.le_of_eq ev) this.2⟩
      · rw [qup_ne z] at hc
        have ev : (if 96 * k ≤ 4 * i + 3 ∧ 4 * i + 3 < 96 * k + 4 * pgJ (g 1) N then lpV (g 1) N (pgS (g 1) N ((4 * i + 3 - 96 * k) / 4)) ((4 * i + 3 - 96 * k) % 4) else g 2 (4 * i + 3)) = g 2 (4 * i + 3) := if_neg (by omega)
        have this := o1 i hi hc
        exact ⟨Int.le_trans this.1 (Int.le_of_eq ev.symm), Int.le_trans (Int.le_of_eq ev) this.2⟩
    have hBd : bkB (fun j => if 96 * k ≤ j ∧ j < 96 * k + 4 * pgJ (g 1) N then lpV (g 1) N (pgS (g 1) N ((j - 96 * k) / 4)) ((j - 96 * k) % 4) else g 2 j) (qup (g 5) k (pgJ (g 1) N : Int)) := fun i hi hc m hm => by
      have hc : ((i % 24 : Nat) : Int) < qup (g 5) k (pgJ (g 1) N : Int) (i / 24) := hc
      by_cases z : i / 24 = k
      · rw [z, qup_eq] at hc
        have := (hV (i % 24) (by omega)).1 m hm
        have ev := lp_if (V := fun a b => lpV (g 1) N (pgS (g 1) N a) b) (R := g 2) (k := k) (J := pgJ (g 1) N) (i := i) (m := m) (by omega) z (by omega)
        exact ⟨Int.le_trans this.1 (Int.le_of_eq ev.symm), Int.le_trans (Int.le_of_eq ev) this.2⟩
      · rw [qup_ne z] at hc
        have ev : (if 96 * k ≤ 4 * i + m ∧ 4 * i + m < 96 * k + 4 * pgJ (g 1) N then lpV (g 1) N (pgS (g 1) N ((4 * i + m - 96 * k) / 4)) ((4 * i + m - 96 * k) % 4) else g 2 (4 * i + m)) = g 2 (4 * i + m) := if_neg (by omega)
        have this := o4 i hi hc m hm
        exact ⟨Int.le_trans this.1 (Int.le_of_eq ev.symm), Int.le_trans (Int.le_of_eq ev) this.2⟩
    have st : stG F' G' 3 (fun j => if 96 * k ≤ j ∧ j < 96 * k + 4 * pgJ (g 1) N then lpV (g 1) N (pgS (g 1) N ((j - 96 * k) / 4)) ((j - 96 * k) % 4) else g 2 j) (qup (g 5) k (pgJ (g 1) N : Int)) (g 3) (g 6) (f 18) (f 19) (f 27) (g 7) (g 9) (g 11) (g 13) (g 15) :=
      ⟨pl, tl, ll, ml, TL, ⟨⟨⟨u3, u4, u5⟩, bkR_cg s4 (fun a h1 h2 => E a (by omega) (by omega)), rwR_cg s5 (E 52 (by decide) (by decide)).1 (E 53 (by decide) (by decide)).2, rwR_cg s6 (E 54 (by decide) (by decide)).1 (E 55 (by decide) (by decide)).2, wlR_cg s7 (E 56 (by decide) (by decide)).1 (E 57 (by decide) (by decide)).2 (E 58 (by decide) (by decide)).2 (E 59 (by decide) (by decide)).2, rwR_cg s8 (E 61 (by decide) (by decide)).1 (E 62 (by decide) (by decide)).2, rwR_cg s9 (E 63 (by decide) (by decide)).1 (E 64 (by decide) (by decide)).2⟩, fun j hj => by rw [(E 30 (by decide) (by decide)).2]; exact s10 j hj⟩, ⟨n1, n2, n3, n4⟩, t1, ⟨hO, o2, o3, hBd, o5⟩, q1, q2⟩
    rw [y5, y6, f27, w3, y7 3 (by decide), y7 6 (by decide), y7 7 (by decide), y7 9 (by decide), y7 11 (by decide), y7 13 (by decide), y7 15 (by decide)]
    exact stG_pt st w4 (fun _ _ => rfl) (fun _ _ => rfl) (fun _ _ => rfl) (fun _ _ => rfl) (fun _ _ => rfl) (fun _ _ => rfl) (fun _ _ => rfl) (fun _ _ => rfl)
  · obtain ⟨u1, u2⟩ := x7 e
    obtain ⟨w1, w2, w3⟩ := y8 e
    refine ⟨f0, kp_st2 hR.2.1 (fun a h1 h2 => ?_) ⟨y5, y6, f27⟩ (fun j hj => ?_), rd, im, kp_pa hR.2.2.2.2.1 (fun a h1 h2 => ⟨?_, x2 a (by omega) (by omega)⟩) w1 (y7 14 (by decide)) (y7 11 (by decide)), th, fl⟩
    · by_cases z : 4 ≤ a ∧ a ≤ 27
      · exact u2 a z.1 z.2
      · exact ⟨x1 a (by omega) (by omega) (by omega) (by omega), x2 a (by omega) (by omega)⟩
    · by_cases z : j = 2
      · rw [z]; exact w2
      · by_cases z5 : j = 5
        · rw [z5]; exact w3
        · simp only [List.mem_cons, List.not_mem_nil, or_false] at hj
          exact y7 j (by simp only [List.mem_cons, List.not_mem_nil, or_false, not_or]; omega)
    · by_cases z : a = 127
      · rw [z]; exact u1
      · exact x1 a (by omega) z (by omega) (by omega)
theorem st_text_pn : Stq M_X11_text M_X12_text [qI 4, qU] [qI 4, qU] := by
  intro h F G f g hR
  obtain ⟨N, L, ⟨r1, r2, r3⟩, ⟨r5, r6⟩, r7, r8⟩ := hR.2.2.1
  obtain ⟨F', G', ⟨x1, x2, ⟨x3, x4, x5⟩, ⟨L2, x6, x61⟩, x7, x8⟩, k1⟩ := xc_text_pn (h := rput h 220 f g) r3 r2 r8 r7
  obtain ⟨f', g', ⟨⟨⟨y1, y2, y3, y4⟩, y6⟩, y7, y8, y9⟩, k2⟩ := c_text_pn (h := xput h F' G') (m := 220) (f := f) (g := g) (by decide) hR.1 r1 r2
  refine ⟨_, F', G', f', g', ?_, k1, k2⟩
  have rd : rdG F' G' f' g' := tx_rd r3.2 x3 x4 x5 x6 x61 (x2 161 (by decide) (by decide)) (y7 1 (by decide)) y2 y3 y4
  have im : imG F' G' f' g' := tx_im hR (x1 2 (by decide) (by decide) (by decide) (by decide)) (fun a h1 h2 => ⟨x1 a (by omega) (by omega) (by omega) (by omega), x2 a (by omega) (by omega)⟩) y1 (fun j hj => y7 j (by simp only [List.mem_cons, List.not_mem_nil, or_false, not_or]; omega))
  have th : thi G' := kp_th hR.2.2.2.2.2.1 (x2 183 (by decide) (by decide)) (x2 184 (by decide) (by decide))
  have fl : F' 216 0 = 0 ∨ F' 216 0 = 1 := by rw [x1 216 (by decide) (by decide) (by decide) (by decide)]; exact hR.2.2.2.2.2.2
  have f0 : f' 0 = 0 := (y1 0 (by decide)).trans hR.1
  have f27 : f' 27 = f 27 := y1 27 (by decide)
  by_cases e : (pnS (g 1) N (pnJ (g 1) N)).2.1 = 0
  · obtain ⟨u1, u2, u3, u4⟩ := x8 e
    obtain ⟨w1, w2, w3, w4⟩ := y9 e
    refine ⟨f0, ?_, rd, im, tx_p0 hR u2 w1, th, fl⟩
    have hq : ∀ i m, i < pnJ (g 1) N → m < 4 → g' 7 (4 * i + m) = lqV (g 1) N (pnS (g 1) N i) m := fun i m hi hm => by
      rw [w4 _ (by omega), show (4 * i + m) / 4 = i by omega, show (4 * i + m) % 4 = m by omega]
    have hq0 : ∀ i, i < pnJ (g 1) N → actOk (g' 7 (4 * i + 1)) (g' 7 (4 * i + 3)) ∧ (0 ≤ g' 7 (4 * i + 2) ∧ g' 7 (4 * i + 2) ≤ 31) ∧ becV (g' 7 (4 * i + 1)) (g' 7 (4 * i + 3)) = g' 7 (4 * i + 3) := fun i hi => by
      rw [hq i 1 hi (by decide), hq i 2 hi (by decide), hq i 3 hi (by decide)]
      exact pl_bd (pn_ok e hi)
    obtain ⟨_, ⟨pl, tl, ll, ml, TL, ⟨⟨⟨s1, s2, s3⟩, s4, s5, s6, s7, s8, s9⟩, s10⟩, ⟨n1, n2, n3, n4⟩, t1, o, q1, q2⟩, _⟩ := hR
    have E : ∀ a, 3 ≤ a → a ≤ 64 → a ≠ 52 → a ≠ 53 → F' a = F a ∧ G' a = G a := fun a h1 h2 h3 h4 => ⟨x1 a (by omega) (by omega) (by omega) (by omega), x2 a (by omega) (by omega)⟩
    rw [y6, f27, y7 2 (by decide), y7 3 (by decide), y7 5 (by decide), y7 6 (by decide), y7 9 (by decide), y7 11 (by decide), y7 13 (by decide), y7 15 (by decide)]
    refine ⟨pnJ (g 1) N, tl, ll, ml, TL, ⟨⟨⟨bkR_cg s1 (fun a h1 h2 => E a (by omega) (by omega) (by omega) (by omega)), fun j hj => ?_, fun j hj => ?_⟩, bkR_cg s4 (fun a h1 h2 => E a (by omega) (by omega) (by omega) (by omega)), ⟨u3, ?_, fun j hj => (u4 j hj).trans (w4 j hj).symm⟩, rwR_cg s6 (E 54 (by decide) (by decide) (by decide) (by decide)).1 (E 55 (by decide) (by decide) (by decide) (by decide)).2, wlR_cg s7 (E 56 (by decide) (by decide) (by decide) (by decide)).1 (E 57 (by decide) (by decide) (by decide) (by decide)).2 (E 58 (by decide) (by decide) (by decide) (by decide)).2 (E 59 (by decide) (by decide) (by decide) (by decide)).2, rwR_cg s8 (E 61 (by decide) (by decide) (by decide) (by decide)).1 (E 62 (by decide) (by decide) (by decide) (by decide)).2, rwR_cg s9 (E 63 (by decide) (by decide) (by decide) (by decide)).1 (E 64 (by decide) (by decide) (by decide) (by decide)).2⟩, fun j hj => ?_⟩, ⟨w3, n2, n3, n4⟩, t1, o, ⟨⟨u1, fun i hi => ⟨(hq0 i hi).1, (hq0 i hi).2.1⟩⟩, fun i hi => (hq0 i hi).2.2⟩, q2⟩
    · rw [(E 6 (by decide) (by decide) (by decide) (by decide)).2]; exact s2 j hj
    · rw [(E 7 (by decide) (by decide) (by decide) (by decide)).2]; exact s3 j hj
    · show pnJ (g 1) N ≤ xM 52
      have : xM 52 = 16 := by decide
      omega
    · rw [(E 30 (by decide) (by decide) (by decide) (by decide)).2]; exact s10 j hj
  · obtain ⟨u1, u2, u3⟩ := x7 e
    obtain ⟨w1, w2, w3⟩ := y8 e
    refine ⟨f0, kp_st2 hR.2.1 (fun a h1 h2 => ⟨?_, ?_⟩) ⟨w2, y6, f27⟩ (fun j hj => ?_), rd, im, kp_pa hR.2.2.2.2.1 (fun a h1 h2 => ⟨?_, x2 a (by omega) (by omega)⟩) w1 (y7 14 (by decide)) (y7 11 (by decide)), th, fl⟩
    · by_cases z : a = 52
      · rw [z]; exact u2
      · exact x1 a (by omega) (by omega) z (by omega)
    · by_cases z : a = 53
      · rw [z]; exact u3
      · exact x2 a z (by omega)
    · by_cases z : j = 7
      · rw [z]; exact w3
      · simp only [List.mem_cons, List.not_mem_nil, or_false] at hj
        exact y7 j (by simp only [List.mem_cons, List.not_mem_nil, or_false, not_or]; omega)
    · by_cases z : a = 127
      · rw [z]; exact u1
      · exact x1 a (by omega) z (by omega) (by omega)
theorem st_text_tn : Stq M_X11_text M_X12_text [qI 5, qU] [qI 5, qU] := by
  intro h F G f g hR
  obtain ⟨N, L, ⟨r1, r2, r3⟩, ⟨r5, r6⟩, r7, r8⟩ := hR.2.2.1
  obtain ⟨F', G', ⟨x1, x2, ⟨x3, x4, x5⟩, ⟨L2, x6, x61⟩, x7, x8⟩, k1⟩ := xc_text_tn (h := rput h 220 f g) (A0 := tnA g) r3 r2 r8 r7 (fun k hk => qmx_lt hk)
  obtain ⟨f', g', ⟨⟨⟨y1, y2, y3, y4⟩, y5, y25⟩, y7, y8, y9⟩, k2⟩ := c_text_tn (h := xput h F' G') (m := 220) (f := f) (g := g) (by decide) hR.1 r1 r2
  refine ⟨_, F', G', f', g', ?_, k1, k2⟩
  have rd : rdG F' G' f' g' := tx_rd r3.2 x3 x4 x5 x6 x61 (x2 161 (by decide) (by decide)) (y7 1 (by decide)) y2 y3 y4
  have im : imG F' G' f' g' := tx_im hR (x1 2 (by decide) (by decide) (by decide) (by decide)) (fun a h1 h2 => ⟨x1 a (by omega) (by omega) (by omega) (by omega), x2 a (by omega) (by omega)⟩) y1 (fun j hj => y7 j (by simp only [List.mem_cons, List.not_mem_nil, or_false, not_or]; omega))
  have th : thi G' := kp_th hR.2.2.2.2.2.1 (x2 183 (by decide) (by decide)) (x2 184 (by decide) (by decide))
  have fl : F' 216 0 = 0 ∨ F' 216 0 = 1 := by rw [x1 216 (by decide) (by decide) (by decide) (by decide)]; exact hR.2.2.2.2.2.2
  have f0 : f' 0 = 0 := (y1 0 (by decide)).trans hR.1
  have f27 : f' 27 = f 27 := y1 27 (by decide)
  have pa : F' 127 = F 127 → paG F' G' f' g' := fun u1 => kp_pa hR.2.2.2.2.1 (fun a h1 h2 => ⟨by
    by_cases z : a = 127
    · rw [z]; exact u1
    · exact x1 a (by omega) z (by omega) (by omega), x2 a (by omega) (by omega)⟩) y25 (y7 14 (by decide)) (y7 11 (by decide))
  by_cases e : (tnX (g 1) N (tnA g) (tnJ (g 1) N (tnA g))).1.2.1 = 0
  · obtain ⟨u1, u2, u3, u4, u5⟩ := x8 e
    obtain ⟨w1, w2, w3⟩ := y9 e
    refine ⟨f0, ?_, rd, im, pa u2, th, fl⟩
    obtain ⟨_, ⟨pl, tl, ll, ml, TL, ⟨⟨⟨s1, s2, s3⟩, s4, s5, s6, s7, s8, s9⟩, s10⟩, ⟨n1, n2, n3, n4⟩, t1, o, q1, q2⟩, _⟩ := hR
    have E : ∀ a, 3 ≤ a → a ≤ 64 → a ≠ 54 → a ≠ 55 → F' a = F a ∧ G' a = G a := fun a h1 h2 h3 h4 => ⟨x1 a (by omega) (by omega) (by omega) (by omega), x2 a (by omega) (by omega)⟩
    rw [y5, f27, y7 2 (by decide), y7 3 (by decide), y7 5 (by decide), y7 6 (by decide), y7 7 (by decide), y7 11 (by decide), y7 13 (by decide), y7 15 (by decide)]
    refine ⟨pl, tnJ (g 1) N (tnA g), ll, ml, G' 55, ⟨⟨⟨bkR_cg s1 (fun a h1 h2 => E a (by omega) (by omega) (by omega) (by omega)), fun j hj => ?_, fun j hj => ?_⟩, bkR_cg s4 (fun a h1 h2 => E a (by omega) (by omega) (by omega) (by omega)), rwR_cg s5 (E 52 (by decide) (by decide) (by decide) (by decide)).1 (E 53 (by decide) (by decide) (by decide) (by decide)).2, ⟨u3, ?_, fun _ _ => rfl⟩, wlR_cg s7 (E 56 (by decide) (by decide) (by decide) (by decide)).1 (E 57 (by decide) (by decide) (by decide) (by decide)).2 (E 58 (by decide) (by decide) (by decide) (by decide)).2 (E 59 (by decide) (by decide) (by decide) (by decide)).2, rwR_cg s8 (E 61 (by decide) (by decide) (by decide) (by decide)).1 (E 62 (by decide) (by decide) (by decide) (by decide)).2, rwR_cg s9 (E 63 (by decide) (by decide) (by decide) (by decide)).1 (E 64 (by decide) (by decide) (by decide) (by decide)).2⟩, fun j hj => ?_⟩, ⟨n1, w2, n3, n4⟩, ⟨u4, fun k hk => (w3 k hk).trans (u5 k hk)⟩, o, q1, q2⟩
    · rw [(E 6 (by decide) (by decide) (by decide) (by decide)).2]; exact s2 j hj
    · rw [(E 7 (by decide) (by decide) (by decide) (by decide)).2]; exact s3 j hj
    · show tnJ (g 1) N (tnA g) ≤ xM 54
      have : xM 54 = 16 := by decide
      omega
    · rw [(E 30 (by decide) (by decide) (by decide) (by decide)).2]; exact s10 j hj
  · obtain ⟨u1, u2, u3⟩ := x7 e
    obtain ⟨w1, w2⟩ := y8 e
    refine ⟨f0, kp_st2 hR.2.1 (fun a h1 h2 => ⟨?_, ?_⟩) ⟨y5, w1, f27⟩ (fun j hj => ?_), rd, im, pa u1, th, fl⟩
    · by_cases z : a = 54
      · rw [z]; exact u2
      · exact x1 a (by omega) (by omega) z (by omega)
    · by_cases z : a = 55
      · rw [z]; exact u3
      · exact x2 a z (by omega)
    · by_cases z : j = 9
      · rw [z]; exact w2
      · simp only [List.mem_cons, List.not_mem_nil, or_false] at hj
        exact y7 j (by simp only [List.mem_cons, List.not_mem_nil, or_false, not_or]; omega)
theorem st_text_no (k : Int) (hno : ¬ (0 ≤ k ∧ k ≤ 5)) : Stq M_X11_text M_X12_text [qI k, qU] [qI k, qU] := by
  intro h F G f g hR
  obtain ⟨N, L, ⟨r1, r2, r3⟩, ⟨r5, r6⟩, r7, r8⟩ := hR.2.2.1
  obtain ⟨F', G', ⟨x1, x2, ⟨x3, x4, x5⟩, x6⟩, k1⟩ := xc_text_no (h := rput h 220 f g) k r3 r2 r8 r7 hno
  have k2 := c_text_no (h := xput h F' G') (m := 220) (f := f) (g := g) k (by decide) hR.1 hno
  refine ⟨_, F', G', qup (qup (qup (qup (qup (qup (qup (qup f 2 (f 1)) 3 0) 4 0) 5 (-1)) 20 0) 6 0) 7 (-1)) 1 0, g, ⟨hR.1, kp_st2 hR.2.1 (fun a h1 h2 => ⟨x1 a (by omega) (by omega), x2 a (by omega)⟩) ⟨rfl, rfl, rfl⟩ (fun j _ => rfl), ⟨0, 0, ⟨rfl, by decide, x3, fun j hj => by rw [x2 161 (by decide)]; exact r3.2 j hj⟩, ⟨x4, x5⟩, by decide, x6⟩, kp_im hR.2.2.2.1 (by rw [x1 2 (by decide) (by decide)]) (fun a h1 h2 => ⟨x1 a (by omega) (by omega), x2 a (by omega)⟩) (fun k h1 h2 => ?_) (fun _ _ _ => rfl), kp_pa hR.2.2.2.2.1 (fun a h1 h2 => ⟨x1 a (by omega) (by omega), x2 a (by omega)⟩) rfl rfl rfl, kp_th hR.2.2.2.2.2.1 (x2 183 (by decide)) (x2 184 (by decide)), by rw [x1 216 (by decide) (by decide)]; exact hR.2.2.2.2.2.2⟩, k1, k2⟩
  rw [qup_ne (by omega), qup_ne (by omega), qup_ne (by omega), qup_ne (by omega), qup_ne (by omega), qup_ne (by omega), qup_ne (by omega), qup_ne (by omega)]
theorem st_text (k : Int) : Stq M_X11_text M_X12_text [qI k, qU] [qI k, qU] := by
  by_cases c : 0 ≤ k ∧ k ≤ 5
  · by_cases c4 : k < 4
    · obtain ⟨k, rfl⟩ := i_nat c.1
      exact st_text_pg k (by omega)
    · obtain rfl | rfl : k = 4 ∨ k = 5 := by omega
      · exact st_text_pn
      · exact st_text_tn
  · exact st_text_no k c
