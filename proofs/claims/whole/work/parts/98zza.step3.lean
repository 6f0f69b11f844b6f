/-! ===== STEPS, third batch ===== -/
section SC
variable {F G F' G' : Nat → Nat → Int} {f f' : Nat → Int} {g g' : Nat → Nat → Int}
theorem kp_st (h : stG F G 3 (g 2) (g 5) (g 3) (g 6) (f 18) (f 19) (f 27) (g 7) (g 9) (g 11) (g 13) (g 15)) (e : ∀ a, 3 ≤ a → a ≤ 64 → F' a = F a ∧ G' a = G a) (ef : f' 18 = f 18 ∧ f' 19 = f 19 ∧ f' 27 = f 27) (eg : ∀ j, 2 ≤ j → j < 16 → g' j = g j) : stG F' G' 3 (g' 2) (g' 5) (g' 3) (g' 6) (f' 18) (f' 19) (f' 27) (g' 7) (g' 9) (g' 11) (g' 13) (g' 15) := by
  rw [ef.1, ef.2.1, ef.2.2, eg 2 (by decide) (by decide), eg 5 (by decide) (by decide), eg 3 (by decide) (by decide), eg 6 (by decide) (by decide), eg 7 (by decide) (by decide), eg 9 (by decide) (by decide), eg 11 (by decide) (by decide), eg 13 (by decide) (by decide), eg 15 (by decide) (by decide)]
  exact stG_cg h (fun a h1 h2 => e a h1 (by omega))
theorem kp_rd (h : rdG F G f g) (e1 : F' 160 = F 160) (e2 : G' 161 = G 161) (e3 : F' 170 = F 170) (ef : f' 1 = f 1 ∧ f' 6 = f 6 ∧ f' 7 = f 7) (eg : g' 1 = g 1) : rdG F' G' f' g' := by
  obtain ⟨N, L, ⟨r1, r2, r3⟩, ⟨r5, r6⟩, r7, r8⟩ := h
  refine ⟨N, L, ⟨ef.1.trans r1, r2, ?_, fun j hj => ?_⟩, ⟨?_, ?_⟩, r7, ?_⟩
  · rw [e1]; exact r3.1
  · rw [e2, eg]; exact r3.2 j hj
  · rw [e1, ef.2.1]; exact r5
  · rw [e1, ef.2.2]; exact r6
  · rw [e3]; exact r8
theorem kp_im (h : imG F G f g) (e0 : F' 2 2 = F 2 2) (e : ∀ a, 65 ≤ a → a ≤ 126 → F' a = F a ∧ G' a = G a) (ef : ∀ k, 37 ≤ k → k ≤ 40 → f' k = f k) (eg : ∀ j, 16 ≤ j → j ≤ 24 → g' j = g j) : imG F' G' f' g' := by
  obtain ⟨i1, i2⟩ := h
  refine ⟨by rw [e0, ef 40 (by decide) (by decide)]; exact i1, ?_⟩
  rw [ef 40 (by decide) (by decide), ef 37 (by decide) (by decide), ef 38 (by decide) (by decide), ef 39 (by decide) (by decide), eg 21 (by decide) (by decide), eg 17 (by decide) (by decide), eg 22 (by decide) (by decide), eg 18 (by decide) (by decide), eg 23 (by decide) (by decide), eg 19 (by decide) (by decide), eg 16 (by decide) (by decide), eg 20 (by decide) (by decide), eg 24 (by decide) (by decide)]
  exact i2.imp id (fun ⟨z1, z2⟩ => ⟨z1, stG_cg z2 (fun a h1 h2 => e a h1 (by omega))⟩)
theorem bkN_g (e : g' 14 = g 14) (t : Nat) : bkN g' t = bkN g t := by unfold bkN; rw [e]
theorem kp_pa (h : paG F G f g) (e : ∀ a, 127 ≤ a → a ≤ 159 → F' a = F a ∧ G' a = G a) (ef : f' 25 = f 25) (eg : g' 14 = g 14) (e11 : g' 11 = g 11) : paG F' G' f' g' := by
  obtain ⟨b, ⟨p1, p2, p3⟩, p4, p5, p6⟩ := h
  refine ⟨b, ⟨ef.trans p1, p2, psR_cg p3 e eg⟩, fun t ht => by rw [bkN_g eg]; exact p4 t ht, fun t ht => by rw [bkN_g eg, bkN_g eg]; exact p5 t ht, fun hb => by rw [bkN_g eg, e11]; exact p6 hb⟩
theorem kp_th (h : thi G) (e3 : G' 183 = G 183) (e4 : G' 184 = G 184) : thi G' := fun c h1 h2 => by rw [e3, e4]; exact h c h1 h2
/-- a new row of the wall, a new past -/
theorem Rel_row {b' : Nat} (hR : Rel F G f g) (e : ∀ a, (a < 56 ∨ 62 < a) → (a < 127 ∨ 159 < a) → F' a = F a ∧ G' a = G a) (hW : wgR F' G' g') (hO : rwOk (g' 11)) (hP : psR F' G' g' b') (hb : b' ≤ 6) (h25 : f' 25 = (b' : Int)) (ef : ∀ k, k < 48 → k ≠ 25 → f' k = f k) (eg : ∀ j, j < 25 → j ≠ 11 → j ≠ 12 → j ≠ 13 → j ≠ 14 → g' j = g j) (p4 : ∀ t, t < b' → rwOk (bkN g' t)) (p5 : ∀ t, t + 1 < b' → bkN g' t 166 ≤ bkN g' (t + 1) 166) (p6 : 0 < b' → bkN g' (b' - 1) 166 ≤ g' 11 166) : Rel F' G' f' g' := by
  obtain ⟨h0, ⟨pl, tl, ll, ml, TL, ⟨⟨⟨s1, s2, s3⟩, s4, s5, s6, s7, s8, s9⟩, s10⟩, ⟨n1, n2, n3, n4⟩, t1, ⟨o1, o2, o3, o4, o5⟩, q1, q2⟩, h2, h3, h4, h5, h6⟩ := hR
  have b166 := rw_at hO (j := 166) (by decide) (a := 0) (b := 150) rfl rfl
  have E : ∀ a, 3 ≤ a → a ≤ 64 → (a < 56 ∨ 62 < a) → F' a = F a ∧ G' a = G a := fun a h1 h2 h3 => e a h3 (by omega)
  refine ⟨(ef 0 (by decide) (by decide)).trans h0, ?_, kp_rd h2 (e 160 (by decide) (by decide)).1 (e 161 (by decide) (by decide)).2 (e 170 (by decide) (by decide)).1 ⟨ef 1 (by decide) (by decide), ef 6 (by decide) (by decide), ef 7 (by decide) (by decide)⟩ (eg 1 (by decide) (by decide) (by decide) (by decide) (by decide)), kp_im h3 (by rw [(e 2 (by decide) (by decide)).1]) (fun a h1 h2 => e a (by omega) (by omega)) (fun k h1 h2 => ef k (by omega) (by omega)) (fun j h1 h2 => eg j (by omega) (by omega) (by omega) (by omega) (by omega)), ⟨b', ⟨h25, hb, hP⟩, p4, p5, p6⟩, kp_th h5 (e 183 (by decide) (by decide)).2 (e 184 (by decide) (by decide)).2, by rw [(e 216 (by decide) (by decide)).1]; exact h6⟩
  rw [eg 2 (by decide) (by decide) (by decide) (by decide) (by decide), eg 5 (by decide) (by decide) (by decide) (by decide) (by decide), eg 3 (by decide) (by decide) (by decide) (by decide) (by decide), eg 6 (by decide) (by decide) (by decide) (by decide) (by decide), eg 7 (by decide) (by decide) (by decide) (by decide) (by decide), eg 9 (by decide) (by decide) (by decide) (by decide) (by decide), eg 15 (by decide) (by decide) (by decide) (by decide) (by decide), ef 18 (by decide) (by decide), ef 19 (by decide) (by decide), ef 27 (by decide) (by decide)]
  refine ⟨pl, tl, (g' 11 166).toNat, ml, TL, ⟨⟨⟨bkR_cg s1 (fun a h1 h2 => E a (by omega) (by omega) (by omega)), fun j hj => ?_, fun j hj => ?_⟩, bkR_cg s4 (fun a h1 h2 => E a (by omega) (by omega) (by omega)), rwR_cg s5 (E 52 (by decide) (by decide) (by decide)).1 (E 53 (by decide) (by decide) (by decide)).2, rwR_cg s6 (E 54 (by decide) (by decide) (by decide)).1 (E 55 (by decide) (by decide) (by decide)).2, hW.1, ⟨?_, ?_, fun j hj => hW.2.2 j (by omega)⟩, rwR_cg s9 (E 63 (by decide) (by decide) (by decide)).1 (E 64 (by decide) (by decide) (by decide)).2⟩, fun j hj => ?_⟩, ⟨n1, n2, by omega, n4⟩, t1, ⟨o1, o2, hO, o4, o5⟩, q1, q2⟩
  · rw [(E 6 (by decide) (by decide) (by decide)).2]; exact s2 j hj
  · rw [(E 7 (by decide) (by decide) (by decide)).2]; exact s3 j hj
  · have := hW.2.1; show F' 61 2 = _; omega
  · show (g' 11 166).toNat ≤ xM 61; have : xM 61 = 150 := by decide
    omega
  · rw [(E 30 (by decide) (by decide) (by decide)).2]; exact s10 j hj
end SC
theorem rwOk_cg {N N' : Nat → Int} (h : rwOk N) (e : ∀ j, j < 167 → N' j = N j) : rwOk N' := ⟨fun j hj => by rw [e j hj]; exact h.1 j hj, by rw [e 163 (by decide), e 162 (by decide)]; exact h.2⟩
theorem st_of (k what : Int) : Stq M_X11_of M_X12_of [qI k, qI what, qU] [qI k, qI what] := by
  intro h F G f g hR
  show StA _ _ _ _ h F G f g
  obtain ⟨n, hN, hn⟩ := rl_n hR
  by_cases c : (0 ≤ k ∧ k < n) ∧ 0 ≤ what ∧ what ≤ 6
  · obtain ⟨k, rfl⟩ := i_nat (show 0 ≤ k by omega)
    obtain rfl | rfl | rfl | rfl | rfl | rfl | rfl : what = 0 ∨ what = 1 ∨ what = 2 ∨ what = 3 ∨ what = 4 ∨ what = 5 ∨ what = 6 := by omega
    · exact sa_n hR (fun h => xc_of0 k (rl_W hR) (wOk_of (rl_N hR)) hN (by omega)) (fun h => c_of0 k (by decide) hR.1 hN hn (by omega))
    · exact sa_n hR (fun h => xc_of1 k (rl_W hR) (wOk_of (rl_N hR)) hN (by omega)) (fun h => c_of1 k (by decide) hR.1 hN hn (by omega))
    · exact sa_n hR (fun h => xc_of2 k (rl_W hR) (wOk_of (rl_N hR)) hN (by omega)) (fun h => c_of2 k (by decide) hR.1 hN hn (by omega))
    · exact sa_n hR (fun h => xc_of3 k (rl_W hR) (wOk_of (rl_N hR)) hN (by omega)) (fun h => c_of3 k (by decide) hR.1 hN hn (by omega))
    · exact sa_n hR (fun h => xc_of4 k (rl_W hR) (wOk_of (rl_N hR)) hN (by omega)) (fun h => c_of4 k (by decide) hR.1 hN hn (by omega))
    · exact sa_n hR (fun h => xc_of5 k (rl_W hR) (wOk_of (rl_N hR)) hN (by omega)) (fun h => c_of5 k (by decide) hR.1 hN hn (by omega))
    · exact sa_n hR (fun h => xc_of6 k (rl_W hR) (wOk_of (rl_N hR)) hN (by omega)) (fun h => c_of6 k (by decide) hR.1 hN hn (by omega))
  · exact sa_n hR (fun h => xc_of_no k what (rl_W hR) (wOk_of (rl_N hR)) hN c) (fun h => c_of_no k what (by decide) hR.1 hN hn c)
theorem st_look (k : Int) : Stq M_X11_look M_X12_look [qI k, qU] [qI k] := by
  intro h F G f g hR
  show StA _ _ _ _ h F G f g
  obtain ⟨n, hN, hn⟩ := rl_n hR
  have hC := rl_C hR
  have hC2 : ∀ k, k < 4 → 0 ≤ g 6 k ∧ g 6 k ≤ 24 := fun k hk => by
    have := rl_K2 hR k hk
    exact ⟨this.2.1, this.2.2.1⟩
  have h161 := rw_at (rl_N hR) (j := 161) (by decide) (a := 0) (b := 1) rfl rfl
  obtain ⟨e12, e13⟩ : F 52 2 = f 18 ∧ F 54 2 = f 19 := by
    obtain ⟨_, ⟨pl, tl, ll, ml, TL, ⟨h1, _⟩, h3, _⟩, _⟩ := id hR
    exact ⟨h1.2.2.1.1.trans h3.1.symm, h1.2.2.2.1.1.trans h3.2.1.symm⟩
  have e15 : F 127 3 = f 25 := by
    obtain ⟨b, ⟨p1, _, l, p3, _⟩, _⟩ := hR.2.2.2.2.1
    exact p3.2.2.1.trans p1.symm
  by_cases c : 0 ≤ k ∧ k ≤ 15
  · obtain rfl | rfl | rfl | rfl | rfl | rfl | rfl | rfl | rfl | rfl | rfl | rfl | rfl | rfl | rfl | rfl : k = 0 ∨ k = 1 ∨ k = 2 ∨ k = 3 ∨ k = 4 ∨ k = 5 ∨ k = 6 ∨ k = 7 ∨ k = 8 ∨ k = 9 ∨ k = 10 ∨ k = 11 ∨ k = 12 ∨ k = 13 ∨ k = 14 ∨ k = 15 := by omega
    · exact sa_n hR (fun h => xc_look0 (rl_W hR)) (fun h => by have := c_look0 (h := h) (m := 220) (f := f) (g := g) (by decide) hR.1 hN hn hC hC2; rw [← hN] at this; exact this)
    · exact sa_n hR (fun h => xc_look1 (rl_W hR) (by omega)) (fun h => c_look1 (by decide) hR.1 hN hn hC hC2)
    · exact sa_n hR (fun h => xc_look2 (rl_W hR)) (fun h => c_look2 (by decide) hR.1 hN hn hC hC2)
    · exact sa_n hR (fun h => xc_look3 (rl_W hR)) (fun h => c_look3 (by decide) hR.1 hN hn hC hC2)
    · exact sa_n hR (fun h => xc_look4 (rl_W hR)) (fun h => c_look4 (by decide) hR.1 hN hn hC hC2)
    · exact sa_n hR (fun h => xc_look5 (rl_W hR)) (fun h => c_look5 (by decide) hR.1 hN hn hC hC2)
    · exact sa_n hR (fun h => xc_look6 (rl_W hR) (wOk_of (rl_N hR)) hN) (fun h => c_look6 (by decide) hR.1 hN hn hC hC2)
    · exact sa_n hR (fun h => xc_look7 ) (fun h => by have := c_look7 (h := h) (m := 220) (f := f) (g := g) (by decide) hR.1 hN hn hC hC2; rw [← (rl_Wg hR).2.1] at this; exact this)
    · exact sa_n hR (fun h => xc_look8 (rl_K hR)) (fun h => c_look8 (by decide) hR.1 hN hn hC hC2)
    · exact sa_n hR (fun h => xc_look9 (rl_K hR)) (fun h => c_look9 (by decide) hR.1 hN hn hC hC2)
    · exact sa_n hR (fun h => xc_look10 (rl_K hR)) (fun h => c_look10 (by decide) hR.1 hN hn hC hC2)
    · exact sa_n hR (fun h => xc_look11 (rl_K hR)) (fun h => c_look11 (by decide) hR.1 hN hn hC hC2)
    · exact sa_n hR (fun h => xc_look12 ) (fun h => by have := c_look12 (h := h) (m := 220) (f := f) (g := g) (by decide) hR.1 hN hn hC hC2; rw [← e12] at this; exact this)
    · exact sa_n hR (fun h => xc_look13 ) (fun h => by have := c_look13 (h := h) (m := 220) (f := f) (g := g) (by decide) hR.1 hN hn hC hC2; rw [← e13] at this; exact this)
    · exact sa_n hR (fun h => xc_look14 (rl_K2 hR)) (fun h => c_look14 (by decide) hR.1 hN hn hC hC2)
    · exact sa_n hR (fun h => xc_look15 ) (fun h => by have := c_look15 (h := h) (m := 220) (f := f) (g := g) (by decide) hR.1 hN hn hC hC2; rw [← e15] at this; exact this)
  · exact sa_n hR (fun h => xc_look_no k (by omega)) (fun h => c_look_no k (by decide) hR.1 (by omega))
theorem st_feed (a b c d e : Int) : Stq M_X11_feed M_X12_feed [qI a, qI b, qI c, qI d, qI e] [qI a, qI b, qI c, qI d, qI e] := by
  intro h F G f g hR
  show StA _ _ _ _ h F G f g
  obtain ⟨N, L, ⟨r1, r2, r3⟩, ⟨r5, r6⟩, r7, r8⟩ := hR.2.2.1
  by_cases w : N + 20 ≤ 400
  · obtain ⟨F', G', ⟨⟨x1, x2, x3⟩, x4⟩, k⟩ := xc_feed (h := rput h 220 f g) a b c d e r3 w
    refine ⟨_, F', G', qup f 1 ((N : Int) + 20), gup g 1 (by20 (g 1) N a b c d e), ⟨(qup_ne (by decide)).trans hR.1, kp_st hR.2.1 (fun a _ _ => ⟨x1 a (by omega), x3 a (by omega)⟩) ⟨qup_ne (by decide), qup_ne (by decide), qup_ne (by decide)⟩ (fun j _ _ => gup_ne (by omega)), ⟨N + 20, L, ⟨by rw [qup_eq]; omega, w, by rw [gup_eq]; exact x4⟩, ⟨by rw [x2 7 (by decide), qup_ne (by decide)]; exact r5, by rw [x2 8 (by decide), qup_ne (by decide)]; exact r6⟩, r7, by rw [x1 170 (by decide)]; exact r8⟩, kp_im hR.2.2.2.1 (by rw [x1 2 (by decide)]) (fun a _ _ => ⟨x1 a (by omega), x3 a (by omega)⟩) (fun k _ _ => qup_ne (by omega)) (fun j _ _ => gup_ne (by omega)), kp_pa hR.2.2.2.2.1 (fun a _ _ => ⟨x1 a (by omega), x3 a (by omega)⟩) (qup_ne (by decide)) (gup_ne (by decide)) (gup_ne (by decide)), kp_th hR.2.2.2.2.2.1 (x3 183 (by decide)) (x3 184 (by decide)), by rw [x1 216 (by decide)]; exact hR.2.2.2.2.2.2⟩, k, c_feed_yes a b c d e (by decide) hR.1 r1 w⟩
  · exact sa_n hR (fun h => xc_feed_no a b c d e r3 r2 (by omega)) (fun h => c_feed_no a b c d e (by decide) hR.1 r1 r2 (by omega))
theorem st_end (n : Int) : Stq M_X11_end M_X12_end [qI n] [qI n] := by
  intro h F G f g hR
  show StA _ _ _ _ h F G f g
  obtain ⟨N, L, ⟨r1, r2, r3⟩, ⟨r5, r6⟩, r7, r8⟩ := hR.2.2.1
  by_cases w : 0 ≤ n ∧ n ≤ (N : Int)
  · have k := xc_end (h := rput h 220 f g) n r3 w
    refine ⟨_, gup F 160 (qup (F 160) 1 n), G, qup f 1 n, g, ⟨(qup_ne (by decide)).trans hR.1, kp_st hR.2.1 (fun a _ _ => ⟨gup_ne (by omega), rfl⟩) ⟨qup_ne (by decide), qup_ne (by decide), qup_ne (by decide)⟩ (fun j _ _ => rfl), ⟨n.toNat, L, ⟨by rw [qup_eq]; omega, by omega, by rw [gup_eq, qup_eq]; omega, r3.2⟩, ⟨by rw [gup_eq, qup_ne (by decide), qup_ne (by decide)]; exact r5, by rw [gup_eq, qup_ne (by decide), qup_ne (by decide)]; exact r6⟩, r7, by rw [gup_ne (by decide)]; exact r8⟩, kp_im hR.2.2.2.1 (by rw [gup_ne (by decide)]) (fun a _ _ => ⟨gup_ne (by omega), rfl⟩) (fun k _ _ => qup_ne (by omega)) (fun j _ _ => rfl), kp_pa hR.2.2.2.2.1 (fun a _ _ => ⟨gup_ne (by omega), rfl⟩) (qup_ne (by decide)) rfl rfl, hR.2.2.2.2.2.1, by rw [gup_ne (by decide)]; exact hR.2.2.2.2.2.2⟩, k, c_end_yes n (by decide) hR.1 ⟨w.1, by omega⟩⟩
  · exact sa_n hR (fun h => xc_end_no n r3 w) (fun h => c_end_no n (by decide) hR.1 (by rw [r1]; exact w))
theorem st_undo  : Stq M_X11_undo M_X12_undo [] [qU] := by
  intro h F G f g hR
  show StA _ _ _ _ h F G f g
  obtain ⟨b, ⟨p1, p2, p3⟩, p4, p5, p6⟩ := hR.2.2.2.2.1
  by_cases w : b = 0
  · subst w
    exact sa_n hR (fun h => xc_undo_no p3) (fun h => c_undo_no (by decide) hR.1 p1)
  · have b166 := rw_at (rl_N hR) (j := 166) (by decide) (a := 0) (b := 150) rfl rfl
    obtain ⟨F', G', ⟨e1, e2, e3⟩, k⟩ := xc_undo (h := rput h 220 f g) (rl_Wg hR) p3 (by omega) (p4 (b - 1) (by omega)) (p6 (by omega)) b166
    have e11 : ∀ j, j < 167 → gup g 11 (qmx 167 (fun k => g 14 (167 * (b - 1) + k)) (g 11)) 11 j = bkN g (b - 1) j := fun j hj => by rw [gup_eq, qmx_lt hj]; rfl
    have eN : ∀ t, bkN (gup g 11 (qmx 167 (fun k => g 14 (167 * (b - 1) + k)) (g 11))) t = bkN g t := bkN_g (gup_ne (by decide))
    refine ⟨_, F', G', _, _, Rel_row (b' := b - 1) hR (fun a h1 h2 => e1 a h1 (by omega)) e2 (rwOk_cg (p4 (b - 1) (by omega)) e11) e3 (by omega) (by rw [qup_eq]; omega) (fun k _ hk => qup_ne hk) (fun j _ hj _ _ _ => gup_ne hj) (fun t ht => by rw [eN]; exact p4 t (by omega)) (fun t ht => by rw [eN, eN]; exact p5 t (by omega)) (fun hb => ?_), k, c_undo_yes (by decide) hR.1 p1 (by omega) p2⟩
    rw [eN, e11 166 (by decide)]
    have := p5 (b - 1 - 1) (by omega)
    rw [show b - 1 - 1 + 1 = b - 1 by omega] at this
    exact this
theorem st_wall (n : Int) (rd : Prop) : Stq M_X11_wall M_X12_wall [qI n, qI (qb rd)] [qI n, qI (qb rd), qU, qU] := by
  intro h F G f g hR
  show StA _ _ _ _ h F G f g
  by_cases w : 0 ≤ n ∧ n ≤ 32
  · obtain ⟨b, ⟨p1, p2, p3⟩, p4, p5, p6⟩ := hR.2.2.2.2.1
    have b166 := rw_at (rl_N hR) (j := 166) (by decide) (a := 0) (b := 150) rfl rfl
    obtain ⟨F', G', ⟨e1, e2, e3⟩, k⟩ := xc_wall (h := rput h 220 f g) n rd (rl_Wg hR) p3 w
    have z : rwOk (qmx 167 (fun _ => 0) (g 11)) := ⟨fun j hj => by
      rw [qmx_lt hj]
      unfold rwLo rwHi
      constructor
      · split <;> omega
      · repeat' split
        all_goals omega, by rw [qmx_lt (by decide), qmx_lt (by decide)]; decide⟩
    have q01 := qb_bd rd
    have hO : rwOk (qup (qup (qup (qup (qmx 167 (fun _ => 0) (g 11)) 160 n) 161 (qb rd)) 164 (-1)) 166 (g 11 166)) := rw_up (rw_up (rw_up (rw_up z w (by decide) (by decide)) (show (0 : Int) ≤ qb rd ∧ qb rd ≤ 1 from q01) (by decide) (by decide)) (by decide) (by decide) (by decide)) b166 (by decide) (by decide)
    exact ⟨_, F', G', _, _, Rel_row (b' := 0) hR (fun a h1 h2 => e1 a (by omega) (by omega)) e2 (by rw [gup_eq]; exact hO) e3 (by decide) (by rw [qup_eq]; rfl) (fun k _ hk => qup_ne hk) (fun j _ hj _ _ _ => gup_ne hj) (fun t ht => absurd ht (by omega)) (fun t ht => absurd ht (by omega)) (fun hb => absurd hb (by omega)), k, c_wall_yes n rd (by decide) hR.1 w⟩
  · exact sa_n hR (fun h => xc_wall_no n rd w) (fun h => c_wall_no n rd (by decide) hR.1 w)
