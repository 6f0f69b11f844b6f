/-! ===== THE BEGINNING ===== -/
def qLp (P : Nat → qC → Prop) : Nat → List qC → Prop
  | _, [] => True
  | s, c :: L => P s c ∧ qLp P (s + 1) L
theorem qLp_n {P : Nat → qC → Prop} {s : Nat} : qLp P s [] := trivial
theorem qLp_c {P : Nat → qC → Prop} {s : Nat} {c : qC} {L : List qC} (h : P s c) (k : qLp P (s + 1) L) : qLp P s (c :: L) := ⟨h, k⟩
theorem qLp_at {P : Nat → qC → Prop} : ∀ (L : List qC) (s : Nat), qLp P s L → ∀ k, k < L.length → ∃ c, L[k]? = some c ∧ P (s + k) c
  | [], _, _, k, hk => absurd hk (Nat.not_lt_zero _)
  | c :: L, s, h, 0, _ => ⟨c, rfl, h.1⟩
  | c :: L, s, h, k + 1, hk => by
    obtain ⟨d, e1, e2⟩ := qLp_at L (s + 1) h.2 k (Nat.lt_of_succ_lt_succ hk)
    exact ⟨d, e1, by rw [show s + (k + 1) = s + 1 + k by omega]; exact e2⟩
def iF0 (a k : Nat) : Int := if ((xk a == 10 && k == 10) || (xk a == 7 && k == 6) || (a == 160 && k == 8) || (a == 172 && k == 6) || (a == 206 && (k == 5 || k == 6))) = true then -1 else 0
def iG0 (a : Nat) : Nat → Int := if (a == 6 || a == 30 || a == 68 || a == 92 || a == 183) = true then fil sd0 648 else if (a == 7 || a == 31 || a == 69 || a == 93 || a == 184) = true then fil dd0 648 else fun _ => 0
def jf0 (k : Nat) : Int := if (k == 7) = true then -1 else 0
def jg0 (k : Nat) : Nat → Int := if (k == 9) = true then fil dd0 16 else if (k == 11) = true then qup (fun _ => 0) 164 (-1) else fun _ => 0
set_option maxRecDepth 100000 in
set_option maxHeartbeats 4000000 in
theorem co_lp : qLp (fun a c => c = xsh (iF0 a) (iG0 a) a) 2 (gCo 2) := by
  repeat (first | exact qLp_n | refine qLp_c rfl ?_)
def rcl (k : Nat) : qC := match k with
  | 0 => qOb 12 (rfO 220 jf0)
  | k + 1 => qAr (rT (k + 1)) (rN (k + 1)) (jg0 (k + 1))
set_option maxRecDepth 100000 in
set_option maxHeartbeats 4000000 in
theorem rf_lp : qLp (fun a c => c = rcl a) 0 (gRf 220) := by
  repeat (first | exact qLp_n | refine qLp_c rfl ?_)
theorem co_put {h : qH} (h2 : h.1 = 2) : ∀ a, xIn a → (qap h 20298 (gCo 2)).2.2 a = xsh (iF0 a) (iG0 a) a := fun a ha => by
  obtain ⟨c, e1, e2⟩ := qLp_at (gCo 2) 2 co_lp (a - 2) (by rw [l_gCo]; have := ha.2; omega)
  have e2 : c = xsh (iF0 (2 + (a - 2))) (iG0 (2 + (a - 2))) (2 + (a - 2)) := e2
  have ea : 2 + (a - 2) = a := by have := ha.1; omega
  rw [ea] at e2
  have := qap_at (h := h) (k := 20298) e1
  rw [h2, ea] at this
  rw [this, e2]
theorem rf_put {h : qH} (h2 : h.1 = 220) : rput (qap h 15832 (gRf 220)) 220 jf0 jg0 = qap h 15832 (gRf 220) := by
  unfold rput
  rw [show qap h 15832 (gRf 220) = ((qap h 15832 (gRf 220)).1, (qap h 15832 (gRf 220)).2.1, (qap h 15832 (gRf 220)).2.2) from rfl]
  congr 2
  funext a
  by_cases ha : 220 ≤ a ∧ a ≤ 257
  · obtain ⟨c, e1, e2⟩ := qLp_at (gRf 220) 0 rf_lp (a - 220) (by rw [l_gRf]; omega)
    have e2 : c = rcl (0 + (a - 220)) := e2
    rw [Nat.zero_add] at e2
    have := qap_at (h := h) (k := 15832) e1
    rw [h2, show 220 + (a - 220) = a by omega] at this
    by_cases z : a = 220
    · subst z
      rw [if_pos rfl]
      exact (this.trans e2).symm
    · rw [if_neg z, if_pos (by omega)]
      obtain ⟨k, hk⟩ : ∃ k, a - 220 = k + 1 := ⟨a - 221, by omega⟩
      rw [hk] at e2 ⊢
      exact (this.trans e2).symm
  · rw [if_neg (by omega), if_neg (by omega)]
theorem bk_none {R : Nat → Int} {c : Nat} (hc : c < 648) : bkTc R (fun _ => 0) 15 (-1) (-1) 0 c = ((c / 81 : Nat) : Int) ∧ bkFc R (fun _ => 0) 15 (-1) c = -1 := by
  have e : ∀ o l r, bkF R (fun _ => 0) 15 (-1) o l r = -1 := fun o l r => by
    unfold bkF
    by_cases z : o = 7
    · rw [qif_t z]
    · rw [qif_f z]
      exact fst_none (fun i hi y => by have : ((i % 24 : Nat) : Int) < 0 := y.1.2.1; omega)
  refine ⟨?_, e _ _ _⟩
  show bkT R (fun _ => 0) 15 (-1) (-1) 0 (c / 81) (c / 9 % 9) (c % 9) = _
  have eM : bkM R (fun _ => 0) 15 (-1) (-1) 0 (c / 81) (c / 9 % 9) (c % 9) = 8 := by unfold bkM; rw [e, qif_f (fun y => y rfl)]
  unfold bkT
  rw [eM, qif_f (fun y => y rfl)]
theorem pg_0 {p : Nat} {R : Nat → Int} (h4 : iF0 p 4 = 0) (h1 : iG0 (p + 1) = fun _ => 0) : pgR iF0 iG0 p R 0 := ⟨h4, by decide, by decide, fun i hi => absurd hi (by omega), fun i s _ _ _ => by rw [h1]; exact tb_0 i⟩
theorem bk_0 {b : Nat} {R : Nat → Int} (h : b = 4 ∨ b = 28) : bkR iF0 iG0 b R (fun _ => 0) := fun k hk => by
  rcases h with rfl | rfl
  · obtain rfl | rfl | rfl | rfl : k = 0 ∨ k = 1 ∨ k = 2 ∨ k = 3 := by omega
    · exact pg_0 (by decide) rfl
    · exact pg_0 (by decide) rfl
    · exact pg_0 (by decide) rfl
    · exact pg_0 (by decide) rfl
  · obtain rfl | rfl | rfl | rfl : k = 0 ∨ k = 1 ∨ k = 2 ∨ k = 3 := by omega
    · exact pg_0 (by decide) rfl
    · exact pg_0 (by decide) rfl
    · exact pg_0 (by decide) rfl
    · exact pg_0 (by decide) rfl
theorem fil_lt {v : Nat → Int} {n j : Nat} (h : j < n) : fil v n j = v j := if_pos h
theorem n0_ok : rwOk (jg0 11) := by
  show rwOk (qup (fun _ => 0) 164 (-1))
  refine rw_up (N := fun _ => 0) ⟨fun j hj => ?_, by decide⟩ (by decide) (by decide) (by decide)
  show rwLo j ≤ 0 ∧ (0 : Int) ≤ rwHi j
  unfold rwLo rwHi
  constructor
  · split <;> omega
  · repeat' split
    all_goals omega
theorem Rel_0 : Rel iF0 iG0 jf0 jg0 := by
  refine ⟨rfl, ⟨0, 0, 0, 0, fun _ => 0, ⟨⟨⟨bk_0 (Or.inl rfl), fun j hj => ?_, fun j hj => ?_⟩, bk_0 (Or.inr rfl), ⟨by decide, Nat.zero_le _, fun j hj => absurd hj (by omega)⟩, ⟨by decide, Nat.zero_le _, fun j hj => absurd hj (by omega)⟩, ?_, ⟨by decide, Nat.zero_le _, fun j hj => absurd hj (by omega)⟩, ⟨by decide, Nat.zero_le _, fun j hj => absurd hj (by omega)⟩⟩, fun j hj => ?_⟩, ⟨rfl, rfl, rfl, rfl⟩, ⟨fun i hi => absurd hi (by omega), fun k hk => ?_⟩, ⟨fun i hi hc => ?_, fun i hi hc => ?_, n0_ok, fun i hi hc => ?_, fun i hi hc => ?_⟩, ⟨⟨by decide, fun i hi => absurd hi (by omega)⟩, fun i hi => absurd hi (by omega)⟩, by decide, fun i hi => absurd hi (by omega)⟩, ⟨0, 0, ⟨rfl, by decide, by decide, fun j hj => rfl⟩, ⟨by decide, by decide⟩, by decide, by decide⟩, ⟨by decide, Or.inl rfl⟩, ⟨0, ⟨rfl, by decide, 0, ⟨by decide, by decide, by decide, by decide⟩, fun t ht => absurd ht (by omega)⟩, fun t ht => absurd ht (by omega), fun t ht => absurd ht (by omega), fun hb => absurd hb (by omega)⟩, fun c h1 h2 => ⟨?_, ?_⟩, Or.inl (by decide)⟩
  · show fil sd0 648 j = bkTc (fun _ => 0) (fun _ => 0) 15 (-1) (-1) 0 j
    rw [fil_lt hj, (bk_none hj).1]
    rfl
  · show fil dd0 648 j = bkFc (fun _ => 0) (fun _ => 0) 15 (-1) j
    rw [fil_lt hj, (bk_none hj).2]
    rfl
  · refine ⟨⟨by decide, by decide, by decide, by decide, by decide, by decide⟩, fun k hk => ⟨?_, ?_, ?_⟩, fun k hk => ⟨?_, ?_⟩⟩
    · show (0 : Int) = qup (fun _ => 0) 164 (-1) k; rw [qup_ne (by omega)]
    · show (0 : Int) = qup (fun _ => 0) 164 (-1) (32 + k); rw [qup_ne (by omega)]
    · show (0 : Int) = qup (fun _ => 0) 164 (-1) (128 + k); rw [qup_ne (by omega)]
    · show tb 0 k = true ↔ qup (fun _ => 0) 164 (-1) (64 + k) = 1; rw [qup_ne (by omega), tb_0]; exact ⟨fun z => (by cases z), fun z => absurd z (by decide)⟩
    · show tb 0 k = true ↔ qup (fun _ => 0) 164 (-1) (96 + k) = 1; rw [qup_ne (by omega), tb_0]; exact ⟨fun z => (by cases z), fun z => absurd z (by decide)⟩
  · show fil sd0 648 j = bkTc (fun _ => 0) (fun _ => 0) 15 (-1) (-1) 0 j
    rw [fil_lt hj, (bk_none hj).1]
    rfl
  · show fil dd0 16 k = -1
    rw [fil_lt hk]
    rfl
  · exact absurd (show ((i % 24 : Nat) : Int) < 0 from hc) (by omega)
  · exact absurd (show ((i % 24 : Nat) : Int) < 0 from hc) (by omega)
  · exact absurd (show ((i % 24 : Nat) : Int) < 0 from hc) (by omega)
  · exact absurd (show ((i % 24 : Nat) : Int) < 0 from hc) (by omega)
  · show fil sd0 648 c = 7
    rw [fil_lt h2]
    show ((c / 81 : Nat) : Int) = 7
    omega
  · show fil dd0 648 c = -1
    rw [fil_lt h2]
    rfl
set_option maxRecDepth 20000 in
theorem lw_all {n : Nat} {S : Nat → Int} {h : qH} (h2 : h.1 = 2) (he : h.2.2 1 = qAr 0 n S) (hn : n ≤ 1000000) (hS : ∀ j, R32 (S j)) : ∃ hr : qH, (hr.1 = 258 ∧ hr.2.1 = h.2.1 + 36130) ∧ qEx M_L_law 0 [qR 1, qU, qU, qU] [] h (some (qI 1)) hr := by
  suffices k : qEy M_L_law 0 [qR 1, qU, qU, qU] [] h (fun r hr => r = some (qI 1) ∧ hr.1 = 258 ∧ hr.2.1 = h.2.1 + 36130) by
    obtain ⟨r, hr, ⟨rfl, e1, e2⟩, k⟩ := k
    exact ⟨hr, ⟨e1, e2⟩, k⟩
  have c1 : (qap h 20298 (gCo 2)).1 = 220 := by show h.1 + (gCo 2).length = 220; rw [h2, l_gCo]
  refine qy (fun _ _ k9 => z_new d_L_law_0 nw_L_7 k9) ?_
  refine qy (fun _ _ k9 => z_dup d_L_law_3 rfl k9) ?_
  refine qy (fun _ _ k9 => z_eq rfl (qc (congrArg qR h2) (qc (congrArg qR h2) rfl)) qap_one k9) ?_
  refine qy (fun _ _ k9 => z_callI (M1 := M_X11_init) d_L_law_4 li_L_9 k_X11_init rfl [] rfl rfl (Nat.le_of_ble_eq_true rfl) (by decide) (by decide) (Nat.le_of_ble_eq_true rfl) (i_gCo (h := h) (n := 2) h2 (by omega)) k9) ?_
  refine qy (fun _ _ k9 => z_astore_n (ls' := [qR 1, qR 2, qU, qU]) d_L_law_7 rfl (by decide) rfl k9) ?_
  refine qy (fun _ _ k9 => z_new d_L_law_8 nw_L_10 k9) ?_
  refine qy (fun _ _ k9 => z_dup d_L_law_11 rfl k9) ?_
  refine qy (fun _ _ k9 => z_eq rfl (qc (congrArg qR c1) (qc (congrArg qR c1) rfl)) qap_one k9) ?_
  refine qy (fun _ _ k9 => z_callI (M1 := M_X12_init) d_L_law_12 li_L_12 k_X12_init rfl [] rfl rfl (Nat.le_of_ble_eq_true rfl) (by decide) (by decide) (Nat.le_of_ble_eq_true rfl) (i_gRf (h := qap h 20298 (gCo 2)) (n := 220) c1 (by omega)) k9) ?_
  refine qy (fun _ _ k9 => z_astore_n (ls' := [qR 1, qR 2, qR 220, qU]) d_L_law_15 rfl (by decide) rfl k9) ?_
  refine qy (fun _ _ k9 => z_iconst d_L_law_16 (by decide) k9) ?_
  refine qy (fun _ _ k9 => z_istore_n (ls' := [qR 1, qR 2, qR 220, qI 0]) d_L_law_17 rfl (by decide) rfl k9) ?_
  have e1 : rput (qap (qap h 20298 (gCo 2)) 15832 (gRf 220)) 220 jf0 jg0 = qap (qap h 20298 (gCo 2)) 15832 (gRf 220) := rf_put c1
  have e2 : xput (qap (qap h 20298 (gCo 2)) 15832 (gRf 220)) iF0 iG0 = qap (qap h 20298 (gCo 2)) 15832 (gRf 220) := xput_of (fun a ha => by
    rw [qap_old (by rw [c1]; exact ha.2)]
    exact co_put h2 a ha)
  have e3 : qap (qap h 20298 (gCo 2)) 15832 (gRf 220) = xput (rput (qap (qap h 20298 (gCo 2)) 15832 (gRf 220)) 220 jf0 jg0) iF0 iG0 := by rw [e1, e2]
  refine qy (fun _ _ k9 => z_eq rfl rfl e3 k9) ?_
  refine lw_loop (n := n) (S := S) ?_ hn hS Rel_0 (fun F' G' f' g' => ⟨rfl, ?_, ?_⟩)
  · rw [qap_old (by rw [c1]; decide), qap_old (by omega)]
    exact he
  · show (qap h 20298 (gCo 2)).1 + (gRf 220).length = 258
    rw [c1, l_gRf]
  · show h.2.1 + 20298 + 15832 = _
    omega
