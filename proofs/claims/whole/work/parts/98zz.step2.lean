/-! ===== STEPS, second batch ===== -/
section SB
variable {M1 M2 : qM} {l1 l2 : List qA} {h : qH} {F G : Nat → Nat → Int} {f : Nat → Int} {g : Nat → Nat → Int} {v : Int}
theorem sa_ef {f' : Nat → Int} {P : (Nat → Nat → Int) → (Nat → Nat → Int) → Prop} (hR : Rel F G f g) (hp : ∀ F' G', P F' G' → scP F G F' G') (ef : ∀ k, k < 48 → f' k = f k) (k1 : ∀ h, ∃ F' G', P F' G' ∧ qEx M1 0 (qR 2 :: l1) [] (xput h F G) (some (qI v)) (xput h F' G')) (k2 : ∀ h, ∃ g', sq g g' ∧ qEx M2 0 (qR 220 :: l2) [] (rput h 220 f g) (some (qI v)) (rput h 220 f' g')) : StA M1 M2 l1 l2 h F G f g := by
  obtain ⟨F', G', hP, k⟩ := k1 (rput h 220 f g)
  obtain ⟨e1, e2, e3⟩ := hp F' G' hP
  obtain ⟨g', hs, k3⟩ := k2 (xput h F' G')
  exact ⟨v, F', G', f', g', Rel_scr hR e1 e2 e3 ef hs, k, k3⟩
theorem sa_g5 {X : Nat → Int} (hR : Rel F G f g) (k1 : ∀ h, qEx M1 0 (qR 2 :: l1) [] (xput h F G) (some (qI v)) (xput h F (gup G 205 X))) (k2 : ∀ h, ∃ g', sq g g' ∧ qEx M2 0 (qR 220 :: l2) [] (rput h 220 f g) (some (qI v)) (rput h 220 f g')) : StA M1 M2 l1 l2 h F G f g := by
  obtain ⟨g', hs, k3⟩ := k2 (xput h F (gup G 205 X))
  exact ⟨v, F, gup G 205 X, f, g', Rel_scr hR (fun a ha => ⟨rfl, gup_ne (by omega)⟩) (fun c h1 h2 => by rw [gup_ne (by decide), gup_ne (by decide)]; exact hR.2.2.2.2.2.1 c h1 h2) hR.2.2.2.2.2.2 (fun _ _ => rfl) hs, k1 _, k3⟩
theorem rl_M (hR : Rel F G f g) : ∃ ml : Nat, f 27 = (ml : Int) ∧ rwR F G 63 ml (g 15) ∧ mkOk (g 15) ml := by
  obtain ⟨_, ⟨pl, tl, ll, ml, TL, ⟨h1, _⟩, h3, _, _, _, h7⟩, _⟩ := hR
  exact ⟨ml, h3.2.2.2, h1.2.2.2.2.2.2, h7⟩
theorem rl_W (hR : Rel F G f g) : wlR F G 56 (g 11) := by
  obtain ⟨_, ⟨pl, tl, ll, ml, TL, ⟨h1, _⟩, _⟩, _⟩ := hR
  exact h1.2.2.2.2.1
theorem rl_L (hR : Rel F G f g) : ∃ ll : Nat, g 11 166 = (ll : Int) ∧ ll ≤ 150 := by
  have := rw_at (rl_N hR) (j := 166) (by decide) (a := 0) (b := 150) rfl rfl
  exact ⟨(g 11 166).toNat, by omega, by omega⟩
theorem rl_Wg (hR : Rel F G f g) : wgR F G g := by
  obtain ⟨_, ⟨pl, tl, ll, ml, TL, ⟨h1, _⟩, h3, _⟩, _⟩ := hR
  refine ⟨h1.2.2.2.2.1, ?_, fun j hj => ?_⟩
  · rw [h3.2.2.1]; exact h1.2.2.2.2.2.1.1
  · exact h1.2.2.2.2.2.1.2.2 j (by have := h3.2.2.1; omega)
theorem rl_Tr (hR : Rel F G f g) : ∃ tl : Nat, F 54 2 = (tl : Int) ∧ tl ≤ xM 54 ∧ trC (G 55) tl ∧ (∀ k, k < 16 → g 9 k = trF (G 55) (fun _ => -1) tl k) ∧ trA (g 9) := by
  obtain ⟨_, ⟨pl, tl, ll, ml, TL, ⟨h1, _⟩, h3, ⟨h4, h5⟩, _⟩, _⟩ := hR
  obtain ⟨a1, a2, a3⟩ := h1.2.2.2.1
  have a3 : ∀ j, j < 4 * tl → G 55 j = TL j := a3
  refine ⟨tl, a1, a2, fun i hi => ?_, fun k hk => ?_, trA_F h4 h5⟩
  · rw [a3 _ (by omega), a3 _ (by omega)]; exact h4 i hi
  · rw [h5 k hk, trF_rows tl a3]
theorem rl_oT (hR : Rel F G f g) : ∀ c, c < 648 → G 30 c = othT g c := by
  obtain ⟨_, ⟨pl, tl, ll, ml, TL, ⟨_, h2⟩, _⟩, _⟩ := hR
  exact h2
theorem rl_n (hR : Rel F G f g) : ∃ n : Nat, g 11 160 = (n : Int) ∧ n ≤ 32 := by
  have := rw_at (rl_N hR) (j := 160) (by decide) (a := 0) (b := 32) rfl rfl
  exact ⟨(g 11 160).toNat, by omega, by omega⟩
theorem rl_C (hR : Rel F G f g) : ∀ k, k < 4 → 0 ≤ g 5 k ∧ g 5 k ≤ 24 := fun k hk => by
  have := rl_K hR k hk
  exact ⟨this.2.1, this.2.2.1⟩
theorem rl_Bd (hR : Rel F G f g) : bkB (g 2) (g 5) ∧ bkB (g 3) (g 6) := by
  obtain ⟨_, ⟨pl, tl, ll, ml, TL, _, _, _, h4, _⟩, _⟩ := hR
  exact h4.2.2.2
theorem w2_0 {a b : Int} : qif ((0 : Int) ≠ 0) a b = b := qif_f (fun z => z rfl)
theorem w2_1 {a b : Int} : qif ((1 : Int) ≠ 0) a b = a := qif_t (by decide)
end SB
theorem st_lights (n lt what : Int) : Stq M_X11_lights M_X12_lights [qI n, qI lt, qI what, qU, qU, qU, qU, qU] [qI n, qI lt, qI what, qU, qU, qU, qU] := by
  intro h F G f g hR
  show StA _ _ _ _ h F G f g
  by_cases c : (1 ≤ n ∧ n ≤ 12) ∧ (0 ≤ lt ∧ lt ≤ qShl 1 n - 1) ∧ 0 ≤ what ∧ what ≤ 1
  · obtain ⟨n, rfl⟩ := i_nat (show 0 ≤ n by omega)
    obtain ⟨c1, c2, c3⟩ := c
    rw [q_bit (by omega)] at c2
    have hn : 1 ≤ n ∧ n ≤ 12 := ⟨by omega, by omega⟩
    obtain rfl | rfl : what = 0 ∨ what = 1 := by omega
    · exact sa_n hR (fun h => xc_lights0 lt hn c2) (fun h => c_lights0 lt (by decide) hR.1 hn c2)
    · exact sa_n hR (fun h => xc_lights1 lt hn c2) (fun h => c_lights1 lt (by decide) hR.1 hn c2)
  · exact sa_n hR (fun h => xc_lights_no n lt what c) (fun h => c_lights_no n lt what (by decide) hR.1 c)
theorem st_echo (i n t what : Int) : Stq M_X11_echo M_X12_echo [qI i, qI n, qI t, qI what, qU, qU, qU, qU, qU] [qI i, qI n, qI t, qI what, qU, qU, qU] := by
  intro h F G f g hR
  show StA _ _ _ _ h F G f g
  obtain ⟨K, hK, hM, hKo⟩ := rl_M hR
  by_cases c : (0 ≤ i ∧ i < K) ∧ (2 ≤ n ∧ n ≤ 99) ∧ (0 ≤ t ∧ t ≤ 999) ∧ 0 ≤ what ∧ what ≤ 1
  · obtain ⟨n, rfl⟩ := i_nat (show 0 ≤ n by omega)
    obtain ⟨i, rfl⟩ := i_nat (show 0 ≤ i by omega)
    have hb := hKo.2 i (by omega)
    obtain rfl | rfl : what = 0 ∨ what = 1 := by omega
    · exact sa_n hR (fun h => xc_echo0 i n t hM (by omega) ⟨by omega, by omega⟩ c.2.2.1 rfl rfl rfl hb.1 hb.2.2.1 hb.2.2.2) (fun h => c_echo0 i n t (by decide) hR.1 hK hKo.1 (by omega) ⟨by omega, by omega⟩ c.2.2.1 rfl rfl rfl hb.1 hb.2.2.1 hb.2.2.2)
    · exact sa_n hR (fun h => xc_echo1 i n t hM (by omega) ⟨by omega, by omega⟩ c.2.2.1 rfl rfl rfl hb.1 hb.2.2.1 hb.2.2.2) (fun h => c_echo1 i n t (by decide) hR.1 hK hKo.1 (by omega) ⟨by omega, by omega⟩ c.2.2.1 rfl rfl rfl hb.1 hb.2.2.1 hb.2.2.2)
  · exact sa_n hR (fun h => xc_echo_no i n t what hM c) (fun h => c_echo_no i n t what (by decide) hR.1 hK hKo.1 c)
theorem st_meets (i j what : Int) : Stq M_X11_meets M_X12_meets [qI i, qI j, qI what, qU, qU, qU, qU, qU, qU, qU, qU, qU] [qI i, qI j, qI what, qU, qU, qU, qU, qU, qU, qU, qU] := by
  intro h F G f g hR
  show StA _ _ _ _ h F G f g
  obtain ⟨K, hK, hM, hKo⟩ := rl_M hR
  by_cases c : (0 ≤ i ∧ i < K) ∧ (0 ≤ j ∧ j < K) ∧ 0 ≤ what ∧ what ≤ 3
  · obtain ⟨i, rfl⟩ := i_nat (show 0 ≤ i by omega)
    obtain ⟨j, rfl⟩ := i_nat (show 0 ≤ j by omega)
    have hb := hKo.2 i (by omega)
    have hd := hKo.2 j (by omega)
    by_cases ij : i = j
    · subst ij
      have e0 : g 15 (4 * i + 2) * g 15 (4 * i + 3) - g 15 (4 * i + 2) * g 15 (4 * i + 3) = 0 := Int.sub_self _
      obtain rfl | rfl | rfl | rfl : what = 0 ∨ what = 1 ∨ what = 2 ∨ what = 3 := by omega
      · exact sa_n hR (fun h => xc_meets_no _ _ 0 hM (Or.inl rfl)) (fun h => by
          have := c_meets0 (h := h) (m := 220) (f := f) (g := g) i i (by decide) hR.1 hK hKo.1 (by omega) (by omega) rfl rfl rfl rfl rfl rfl rfl rfl hb.1 hb.2.1 hb.2.2.1 hb.2.2.2 hb.1 hb.2.1 hb.2.2.1 hb.2.2.2
          rw [qif_t e0] at this
          exact this)
      · exact sa_n hR (fun h => xc_meets_no _ _ 1 hM (Or.inl rfl)) (fun h => by
          have := c_meets1 (h := h) (m := 220) (f := f) (g := g) i i (by decide) hR.1 hK hKo.1 (by omega) (by omega) rfl rfl rfl rfl rfl rfl rfl rfl hb.1 hb.2.1 hb.2.2.1 hb.2.2.2 hb.1 hb.2.1 hb.2.2.1 hb.2.2.2
          rw [qif_t e0] at this
          exact this)
      · exact sa_n hR (fun h => xc_meets_no _ _ 2 hM (Or.inl rfl)) (fun h => by
          have := c_meets2 (h := h) (m := 220) (f := f) (g := g) i i (by decide) hR.1 hK hKo.1 (by omega) (by omega) rfl rfl rfl rfl rfl rfl rfl rfl hb.1 hb.2.1 hb.2.2.1 hb.2.2.2 hb.1 hb.2.1 hb.2.2.1 hb.2.2.2
          rw [qif_t e0] at this
          exact this)
      · exact sa_n hR (fun h => xc_meets_no _ _ 3 hM (Or.inl rfl)) (fun h => by
          have := c_meets3 (h := h) (m := 220) (f := f) (g := g) i i (by decide) hR.1 hK hKo.1 (by omega) (by omega) rfl rfl rfl rfl rfl rfl rfl rfl hb.1 hb.2.1 hb.2.2.1 hb.2.2.2 hb.1 hb.2.1 hb.2.2.1 hb.2.2.2
          rw [qif_t e0] at this
          exact this)
    · obtain rfl | rfl | rfl | rfl : what = 0 ∨ what = 1 ∨ what = 2 ∨ what = 3 := by omega
      · exact sa_n hR (fun h => xc_meets0 i j hM (by omega) (by omega) ij rfl rfl rfl rfl rfl rfl rfl rfl hb.1 hb.2.1 hb.2.2.1 hb.2.2.2 hd.1 hd.2.1 hd.2.2.1 hd.2.2.2) (fun h => c_meets0 i j (by decide) hR.1 hK hKo.1 (by omega) (by omega) rfl rfl rfl rfl rfl rfl rfl rfl hb.1 hb.2.1 hb.2.2.1 hb.2.2.2 hd.1 hd.2.1 hd.2.2.1 hd.2.2.2)
      · exact sa_n hR (fun h => xc_meets1 i j hM (by omega) (by omega) ij rfl rfl rfl rfl rfl rfl rfl rfl hb.1 hb.2.1 hb.2.2.1 hb.2.2.2 hd.1 hd.2.1 hd.2.2.1 hd.2.2.2) (fun h => c_meets1 i j (by decide) hR.1 hK hKo.1 (by omega) (by omega) rfl rfl rfl rfl rfl rfl rfl rfl hb.1 hb.2.1 hb.2.2.1 hb.2.2.2 hd.1 hd.2.1 hd.2.2.1 hd.2.2.2)
      · exact sa_n hR (fun h => xc_meets2 i j hM (by omega) (by omega) ij rfl rfl rfl rfl rfl rfl rfl rfl hb.1 hb.2.1 hb.2.2.1 hb.2.2.2 hd.1 hd.2.1 hd.2.2.1 hd.2.2.2) (fun h => c_meets2 i j (by decide) hR.1 hK hKo.1 (by omega) (by omega) rfl rfl rfl rfl rfl rfl rfl rfl hb.1 hb.2.1 hb.2.2.1 hb.2.2.2 hd.1 hd.2.1 hd.2.2.1 hd.2.2.2)
      · exact sa_n hR (fun h => xc_meets3 i j hM (by omega) (by omega) ij rfl rfl rfl rfl rfl rfl rfl rfl hb.1 hb.2.1 hb.2.2.1 hb.2.2.2 hd.1 hd.2.1 hd.2.2.1 hd.2.2.2) (fun h => c_meets3 i j (by decide) hR.1 hK hKo.1 (by omega) (by omega) rfl rfl rfl rfl rfl rfl rfl rfl hb.1 hb.2.1 hb.2.2.1 hb.2.2.2 hd.1 hd.2.1 hd.2.2.1 hd.2.2.2)
  · exact sa_n hR (fun h => xc_meets_no i j what hM (Or.inr c)) (fun h => c_meets_no i j what (by decide) hR.1 hK hKo.1 c)
theorem st_alike (to what : Int) : Stq M_X11_alike M_X12_alike [qI to, qI what, qU, qU] [qI to, qI what, qU, qU, qU] := by
  intro h F G f g hR
  show StA _ _ _ _ h F G f g
  by_cases c : (1 ≤ to ∧ to ≤ 24) ∧ 0 ≤ what ∧ what ≤ 2
  · obtain ⟨to, rfl⟩ := i_nat (show 0 ≤ to by omega)
    have ht : 1 ≤ to ∧ to ≤ 24 := ⟨by omega, by omega⟩
    have hB2 : ∀ c, c < 648 → 0 ≤ othT g c ∧ othT g c ≤ 7 := fun c hc => bkTc_bd (rl_O2 hR) (by decide) c hc
    obtain rfl | rfl | rfl : what = 0 ∨ what = 1 ∨ what = 2 := by omega
    · exact sa_e hR (sc_x hR (by decide) (by decide) (by decide)) (fun h => xc_alike0 ht (rl_T hR) (rl_B hR) (rl_oT hR) hB2) (fun h => c_alike 0 (by decide) hR.1 ht (by decide) (rl_O hR) (rl_O2 hR))
    · exact sa_e hR (sc_x hR (by decide) (by decide) (by decide)) (fun h => xc_alike1 ht (rl_T hR) (rl_B hR) (rl_oT hR) hB2) (fun h => c_alike 1 (by decide) hR.1 ht (by decide) (rl_O hR) (rl_O2 hR))
    · exact sa_e hR (sc_x hR (by decide) (by decide) (by decide)) (fun h => xc_alike2 ht (rl_T hR) (rl_B hR) (rl_oT hR) hB2) (fun h => c_alike 2 (by decide) hR.1 ht (by decide) (rl_O hR) (rl_O2 hR))
  · exact sa_n hR (fun h => xc_alike_no to what c) (fun h => c_alike_no to what (by decide) hR.1 c)
theorem st_before  : Stq M_X11_before M_X12_before [qU] [qU, qU, qU, qU, qU, qU] := by
  intro h F G f g hR
  show StA _ _ _ _ h F G f g
  obtain ⟨n, hN, hn⟩ := rl_n hR
  by_cases c : n = 0
  · subst c
    exact sa_n hR (fun h => xc_before_no (rl_W hR) hN) (fun h => c_before_no (by decide) hR.1 hN)
  · rcases hR.2.2.2.2.2.2 with z | z
    · exact sa_e hR (sc_b hR) (fun h => xc_before0 ⟨by omega, hn⟩ (rl_T hR) (rl_W hR) hN z) (fun h => c_before (by decide) hR.1 hN ⟨by omega, hn⟩)
    · exact sa_e hR (sc_b hR) (fun h => xc_before1 ⟨by omega, hn⟩ (rl_T hR) (rl_W hR) hN z) (fun h => c_before (by decide) hR.1 hN ⟨by omega, hn⟩)
theorem st_round (what : Int) : Stq M_X11_round M_X12_round [qI what] [qI what, qU, qU] := by
  intro h F G f g hR
  show StA _ _ _ _ h F G f g
  obtain ⟨n, hN, hn⟩ := rl_n hR
  by_cases c : 0 ≤ what ∧ what ≤ 1
  · obtain rfl | rfl : what = 0 ∨ what = 1 := by omega
    · exact sa_e hR (sc_x hR (by decide) (by decide) (by decide)) (fun h => xc_round0 (rl_W hR) (rl_N hR) hN (rl_T hR) (rl_B hR)) (fun h => c_round 0 (by decide) hR.1 hN hn (fun j hj => rw_m (rl_N hR) hj) (by decide) (rl_O hR))
    · exact sa_e hR (sc_x hR (by decide) (by decide) (by decide)) (fun h => xc_round1 (rl_W hR) (rl_N hR) hN (rl_T hR) (rl_B hR)) (fun h => c_round 1 (by decide) hR.1 hN hn (fun j hj => rw_m (rl_N hR) hj) (by decide) (rl_O hR))
  · exact sa_n hR (fun h => xc_round_no what c) (fun h => c_round_no what (by decide) hR.1 c)
theorem st_used (to what : Int) : Stq M_X11_used M_X12_used [qI to, qI what] [qI to, qI what, qU, qU, qU] := by
  intro h F G f g hR
  show StA _ _ _ _ h F G f g
  by_cases c : (1 ≤ to ∧ to ≤ 24) ∧ 0 ≤ what ∧ what ≤ 2
  · obtain ⟨to, rfl⟩ := i_nat (show 0 ≤ to by omega)
    have ht : 1 ≤ to ∧ to ≤ 24 := ⟨by omega, by omega⟩
    have ef : ∀ k, k < 48 → qup f 48 (bst (usS (ownT g) to)) k = f k := fun k hk => qup_ne (by omega)
    have e0 : cnt (fun q : Nat => rlP (g 5) q ∧ dcP (fun c => qb (usA (ownT g) to c)) (ownF g) (q : Int)) 96 = cnt (usD (ownT g) (ownF g) to) 96 := cnt_congr (fun q _ => us_rl (rl_B hR))
    have e1 : fst (fun q : Nat => rlP (g 5) q ∧ ¬ dcP (fun c => qb (usA (ownT g) to c)) (ownF g) (q : Int)) 96 = fst (fun q9 => rlP (g 5) q9 ∧ ¬ usD (ownT g) (ownF g) to q9) 96 := fst_congr (fun q _ => us_nrl (rl_B hR))
    obtain rfl | rfl | rfl : what = 0 ∨ what = 1 ∨ what = 2 := by omega
    · exact sa_ef hR (sc_nfr hR) ef (fun h => xc_used0 ht (rl_T hR) (rl_B hR) (rl_D hR) (rl_K hR)) (fun h => by
        have := c_used (h := h) (m := 220) (f := f) (g := g) (to := to) 0 (by decide) hR.1 ht (by decide) (rl_O hR)
        rw [w3_0, ← e0] at this
        exact this)
    · exact sa_ef hR (sc_nfr hR) ef (fun h => xc_used1 ht (rl_T hR) (rl_B hR) (rl_D hR) (rl_K hR)) (fun h => by
        have := c_used (h := h) (m := 220) (f := f) (g := g) (to := to) 1 (by decide) hR.1 ht (by decide) (rl_O hR)
        rw [w3_1, ← e1] at this
        exact this)
    · exact sa_ef hR (sc_nfr hR) ef (fun h => xc_used2 ht (rl_T hR) (rl_B hR) (rl_D hR) (rl_K hR)) (fun h => by
        have := c_used (h := h) (m := 220) (f := f) (g := g) (to := to) 2 (by decide) hR.1 ht (by decide) (rl_O hR)
        rw [w3_2] at this
        exact this)
  · exact sa_n hR (fun h => xc_used_no to what c) (fun h => c_used_no to what (by decide) hR.1 c)
theorem st_log (i k : Int) : Stq M_X11_log M_X12_log [qI i, qI k] [qI i, qI k] := by
  intro h F G f g hR
  show StA _ _ _ _ h F G f g
  obtain ⟨L, hL, hL2⟩ := rl_L hR
  exact sa_n hR (fun h => xc_log i k (rl_Wg hR) hL hL2) (fun h => c_log i k (by decide) hR.1 hL hL2)
theorem st_heard (k j t : Int) : Stq M_X11_heard M_X12_heard [qI k, qI j, qI t, qU] [qI k, qI j, qI t, qU, qU, qU, qU, qU] := by
  intro h F G f g hR
  show StA _ _ _ _ h F G f g
  obtain ⟨n, hN, hn⟩ := rl_n hR
  have hD : ∀ j, j < 32 → 0 ≤ g 11 (64 + j) ∧ g 11 (64 + j) ≤ 1 := fun j hj => rw_d (rl_N hR) (by omega) (by omega)
  have hL : ∀ j, j < 32 → 0 ≤ g 11 (96 + j) ∧ g 11 (96 + j) ≤ 1 := fun j hj => rw_d (rl_N hR) (by omega) (by omega)
  by_cases c : (0 ≤ k ∧ k < n) ∧ ((j = -1 ∧ 0 ≤ t ∧ t ≤ 200) ∨ (0 ≤ j ∧ j < n))
  · obtain ⟨k, rfl⟩ := i_nat (show 0 ≤ k by omega)
    rcases c.2 with ⟨rfl, ht⟩ | hj
    · exact sa_e hR (sc_h hR) (fun h => xc_heard_t k t (rl_W hR) (wOk_of (rl_N hR)) hN hn hD hL (by omega) ht) (fun h => c_heard_t _ t (by decide) hR.1 hN hn ⟨by omega, by omega⟩ hL ht)
    · obtain ⟨j, rfl⟩ := i_nat (show 0 ≤ j by omega)
      exact sa_e hR (sc_h hR) (fun h => xc_heard_j k j t (rl_W hR) (wOk_of (rl_N hR)) hN hn hD hL (by omega) (by omega)) (fun h => c_heard_j _ j t (by decide) hR.1 hN hn ⟨by omega, by omega⟩ hL (by omega))
  · exact sa_n hR (fun h => xc_heard_no k j t (rl_W hR) (wOk_of (rl_N hR)) hN hn hD hL c) (fun h => c_heard_no k j t (by decide) hR.1 hN hn c)
theorem st_trees (what : Int) : Stq M_X11_trees M_X12_trees [qI what, qU] [qI what, qU, qU, qU, qU] := by
  intro h F G f g hR
  show StA _ _ _ _ h F G f g
  obtain ⟨tl, hL, hLm, hC, hA, hT⟩ := rl_Tr hR
  by_cases c : 0 ≤ what ∧ what ≤ 2
  · obtain rfl | rfl | rfl : what = 0 ∨ what = 1 ∨ what = 2 := by omega
    · exact sa_e hR (sc_x hR (by decide) (by decide) (by decide)) (fun h => xc_trees0 hL hLm hC hA rfl (rl_T hR) (rl_B hR)) (fun h => by
        have := c_trees (h := h) (m := 220) (f := f) (g := g) 0 (by decide) hR.1 (by decide) hT (rl_O hR)
        rw [w3_0] at this
        exact this)
    · exact sa_e hR (sc_x hR (by decide) (by decide) (by decide)) (fun h => xc_trees1 hL hLm hC hA rfl (rl_T hR) (rl_B hR)) (fun h => by
        have := c_trees (h := h) (m := 220) (f := f) (g := g) 1 (by decide) hR.1 (by decide) hT (rl_O hR)
        rw [w3_1] at this
        exact this)
    · exact sa_e hR (sc_x hR (by decide) (by decide) (by decide)) (fun h => xc_trees2 hL hLm hC hA rfl (rl_T hR) (rl_B hR)) (fun h => by
        have := c_trees (h := h) (m := 220) (f := f) (g := g) 2 (by decide) hR.1 (by decide) hT (rl_O hR)
        rw [w3_2] at this
        exact this)
  · exact sa_s hR (sc_x hR (by decide) (by decide) (by decide)) sq_rf (fun h => xc_trees_no what c hL hLm hC hA rfl (rl_T hR) (rl_B hR)) (fun h => c_trees_no what (by decide) hR.1 c)
theorem st_worn (i to : Int) : Stq M_X11_worn M_X12_worn [qI i, qI to] [qI i, qI to] := by
  intro h F G f g hR
  show StA _ _ _ _ h F G f g
  by_cases c : (0 ≤ i ∧ i ≤ 95 ∧ i % 24 < g 5 (i.toNat / 24)) ∧ 1 ≤ to ∧ to ≤ 24
  · obtain ⟨to, rfl⟩ := i_nat (show 0 ≤ to by omega)
    have ht : 1 ≤ to ∧ to ≤ 24 := ⟨by omega, by omega⟩
    obtain ⟨i, rfl⟩ := i_nat c.1.1
    have c3 : ((i % 24 : Nat) : Int) < g 5 (i / 24) := by have := c.1.2.2; rw [Int.toNat_natCast] at this; omega
    have e : fbR (bkTc (qup (g 2) (4 * i) 0) (g 5) 15 (-1) (-1) 0) to = fbR (wornT g (i : Int)) to := by
      rw [show bkTc (qup (g 2) (4 * i) 0) (g 5) 15 (-1) (-1) 0 = wornT g (i : Int) from funext (fun c => wear_T)]
    exact sa_s hR (sc_t hR) (sq_sc (sq_up (k := 26) (sq_up (k := 25) sq_rf (by decide)) (by decide))) (fun h => xc_worn ht (rl_K hR) (rl_O hR) (rl_S7 hR) (by omega) c3 c3) (fun h => by
      have := c_worn (h := h) (m := 220) (f := f) (g := g) (i : Int) (by decide) hR.1 c.1 ht (rl_O hR)
      rw [← e] at this
      exact this)
  · exact sa_n hR (fun h => xc_worn_no i to (rl_K hR) c) (fun h => c_worn_no i to (by decide) hR.1 c)
theorem st_mends (i to : Int) : Stq M_X11_mends M_X12_mends [qI i, qI to] [qI i, qI to, qU, qU] := by
  intro h F G f g hR
  show StA _ _ _ _ h F G f g
  by_cases c : (0 ≤ i ∧ i ≤ 95 ∧ i % 24 < g 5 (i.toNat / 24)) ∧ 1 ≤ to ∧ to ≤ 24
  · obtain ⟨to, rfl⟩ := i_nat (show 0 ≤ to by omega)
    have ht : 1 ≤ to ∧ to ≤ 24 := ⟨by omega, by omega⟩
    obtain ⟨i, rfl⟩ := i_nat c.1.1
    have c3 : ((i % 24 : Nat) : Int) < g 5 (i / 24) := by have := c.1.2.2; rw [Int.toNat_natCast] at this; omega
    have e : (fun k : Nat => k < 9 ∧ fbR (bkTc (qup (g 2) (4 * i + 3) (k : Int)) (g 5) 15 (-1) (-1) 0) to = -1) = (fun k : Nat => k < 9 ∧ fbR (mendT g (i : Int) (k : Int)) to = -1) := funext (fun k => by
      rw [show bkTc (qup (g 2) (4 * i + 3) (k : Int)) (g 5) 15 (-1) (-1) 0 = mendT g (i : Int) (k : Int) from funext (fun c => mend_T)])
    exact sa_e hR (sc_t hR) (fun h => xc_mends ht (rl_K hR) (rl_O hR) (rl_S7 hR) (by omega) c3 c3) (fun h => by
      have := c_mends (h := h) (m := 220) (f := f) (g := g) (i : Int) (by decide) hR.1 c.1 ht (rl_O hR)
      rw [← e] at this
      exact this)
  · exact sa_n hR (fun h => xc_mends_no i to (rl_K hR) c) (fun h => c_mends_no i to (by decide) hR.1 c)
theorem st_enough (to : Int) : Stq M_X11_enough M_X12_enough [qI to] [qI to, qU, qU] := by
  intro h F G f g hR
  show StA _ _ _ _ h F G f g
  by_cases c : 1 ≤ to ∧ to ≤ 24
  · obtain ⟨to, rfl⟩ := i_nat (show 0 ≤ to by omega)
    have ht : 1 ≤ to ∧ to ≤ 24 := ⟨by omega, by omega⟩
    have e := en_eq (g := g) (to := to) (fun k hk => (rl_C hR k hk).1) 16 (by decide)
    exact sa_e hR (sc_t hR) (fun h => xc_enough ht (rl_K hR) (rl_O hR) hR.2.2.2.2.2.1) (fun h => by
      have := c_enough (h := h) (m := 220) (f := f) (g := g) (to := to) (by decide) hR.1 ht (rl_O hR)
      rw [← e] at this
      exact this)
  · exact sa_n hR (fun h => xc_enough_no to c) (fun h => c_enough_no to (by decide) hR.1 c)
theorem st_mixed (to what : Int) : Stq M_X11_mixed M_X12_mixed [qI to, qI what] [qI to, qI what, qU, qU, qU] := by
  intro h F G f g hR
  show StA _ _ _ _ h F G f g
  by_cases c : (1 ≤ to ∧ to ≤ 24) ∧ 0 ≤ what ∧ what ≤ 1
  · obtain ⟨to, rfl⟩ := i_nat (show 0 ≤ to by omega)
    have ht : 1 ≤ to ∧ to ≤ 24 := ⟨by omega, by omega⟩
    obtain rfl | rfl : what = 0 ∨ what = 1 := by omega
    · exact sa_e hR (sc_t hR) (fun h => xc_mixed0 ht (rl_K hR) (rl_K2 hR) (rl_O hR) (rl_O2 hR) hR.2.2.2.2.2.1) (fun h => by
        have := c_mixed (h := h) (m := 220) (f := f) (g := g) (to := to) 0 (by decide) hR.1 ht (by decide) (rl_O hR) (rl_O2 hR)
        rw [w2_0] at this
        exact this)
    · exact sa_e hR (sc_t hR) (fun h => xc_mixed1 ht (rl_K hR) (rl_K2 hR) (rl_O hR) (rl_O2 hR) hR.2.2.2.2.2.1) (fun h => by
        have := c_mixed (h := h) (m := 220) (f := f) (g := g) (to := to) 1 (by decide) hR.1 ht (by decide) (rl_O hR) (rl_O2 hR)
        rw [w2_1] at this
        exact this)
  · exact sa_n hR (fun h => xc_mixed_no to what c) (fun h => c_mixed_no to what (by decide) hR.1 c)
theorem st_rules (what : Int) : Stq M_X11_rules M_X12_rules [qI what, qU] [qI what, qU, qU, qU, qU] := by
  intro h F G f g hR
  show StA _ _ _ _ h F G f g
  have hD7 : ∀ c, 567 ≤ c → c < 648 → ownF g c = -1 := fun c h1 h2 => (bk_hi h1 h2).1
  have e1 : sm (g 5) 4 - cnt (fun q : Nat => rlP (g 5) q ∧ dcP (fun _ => 1) (ownF g) (q : Int)) 96 = cnt (fun q9 => rlP (g 5) q9 ∧ ¬ dcR (ownF g) 648 q9) 96 := by
    have z := cnt_split (p := rlP (g 5)) (q := fun q => dcP (fun _ => 1) (ownF g) (q : Int)) 96
    rw [rl_sm (rl_C hR)] at z
    have z2 : cnt (fun q9 => rlP (g 5) q9 ∧ ¬ dcP (fun _ => 1) (ownF g) (q9 : Int)) 96 = cnt (fun q9 => rlP (g 5) q9 ∧ ¬ dcR (ownF g) 648 q9) 96 := cnt_congr (fun q _ => and_congr Iff.rfl (not_congr (dc_eq hD7)))
    omega
  have e2 : fst (fun q : Nat => rlP (g 5) q ∧ ¬ dcP (fun _ => 1) (ownF g) (q : Int)) 96 = fst (fun q9 => rlP (g 5) q9 ∧ ¬ dcR (ownF g) 648 q9) 96 := fst_congr (fun q _ => and_congr Iff.rfl (not_congr (dc_eq hD7)))
  by_cases c : 0 ≤ what ∧ what ≤ 4
  · obtain rfl | rfl | rfl | rfl | rfl : what = 0 ∨ what = 1 ∨ what = 2 ∨ what = 3 ∨ what = 4 := by omega
    · have e0 := gc_eq (rl_Bd hR).1 96 (by decide)
      exact sa_n hR (fun h => xc_rules0 (rl_K hR)) (fun h => by
        have := c_rules0 (h := h) (m := 220) (f := f) (g := g) (by decide) hR.1
        rw [← e0] at this
        exact this)
    · exact sa_g5 hR (fun h => xc_rules1 (rl_K hR) (rl_D hR)) (fun h => by
        have := c_rules (h := h) (m := 220) (f := f) (g := g) 1 (by decide) hR.1 (by decide) (rl_O hR)
        rw [qif_f (show ¬ ((1 : Int) ≠ 1) by decide), ← e1] at this
        exact this)
    · exact sa_g5 hR (fun h => xc_rules2 (rl_K hR) (rl_D hR)) (fun h => by
        have := c_rules (h := h) (m := 220) (f := f) (g := g) 2 (by decide) hR.1 (by decide) (rl_O hR)
        rw [qif_t (show (2 : Int) ≠ 1 by decide), qif_f (show ¬ ((2 : Int) ≠ 2) by decide), ← e2] at this
        exact this)
    · exact sa_me hR (fun h => xc_rules3 (rl_T hR)) (fun h => by
        have := c_rules (h := h) (m := 220) (f := f) (g := g) 3 (by decide) hR.1 (by decide) (rl_O hR)
        rw [qif_t (show (3 : Int) ≠ 1 by decide), qif_t (show (3 : Int) ≠ 2 by decide), qif_f (show ¬ ((3 : Int) ≠ 3) by decide)] at this
        exact this)
    · exact sa_me hR (fun h => xc_rules4 (rl_T hR)) (fun h => by
        have := c_rules (h := h) (m := 220) (f := f) (g := g) 4 (by decide) hR.1 (by decide) (rl_O hR)
        rw [qif_t (show (4 : Int) ≠ 1 by decide), qif_t (show (4 : Int) ≠ 2 by decide), qif_t (show (4 : Int) ≠ 3 by decide)] at this
        exact this)
  · exact sa_n hR (fun h => xc_rules_no what c) (fun h => c_rules_no what (by decide) hR.1 c)
theorem st_unlike (p q what : Int) : Stq M_X11_unlike M_X12_unlike [qI p, qI q, qI what, qU, qU, qU, qU, qU, qU, qU, qU] [qI p, qI q, qI what, qU, qU, qU] := by
  intro h F G f g hR
  show StA _ _ _ _ h F G f g
  by_cases c : (0 ≤ p ∧ p ≤ 3) ∧ (0 ≤ q ∧ q ≤ 3) ∧ 0 ≤ what ∧ what ≤ 1
  · obtain ⟨p, rfl⟩ := i_nat (show 0 ≤ p by omega)
    obtain ⟨q, rfl⟩ := i_nat (show 0 ≤ q by omega)
    have hp : p < 4 := by omega
    have hq : q < 4 := by omega
    have e0 : cnt (upP (g 2) (g 5) p q) 567 = cnt (ulP g (p : Int) (q : Int)) 567 := cnt_congr (fun k hk => up_ul hp hq hk)
    have e1 : fst (upP (g 2) (g 5) p q) 567 = fst (ulP g (p : Int) (q : Int)) 567 := fst_congr (fun k hk => up_ul hp hq hk)
    obtain rfl | rfl : what = 0 ∨ what = 1 := by omega
    · exact sa_me hR (fun h => xc_unlike0 hp hq (rl_K hR)) (fun h => by
        have := c_unlike (h := h) (m := 220) (f := f) (g := g) (p : Int) (q : Int) 0 (by decide) hR.1 c.1 c.2.1 (by decide)
        rw [w2_0, ← e0] at this
        exact this)
    · exact sa_me hR (fun h => xc_unlike1 hp hq (rl_K hR)) (fun h => by
        have := c_unlike (h := h) (m := 220) (f := f) (g := g) (p : Int) (q : Int) 1 (by decide) hR.1 c.1 c.2.1 (by decide)
        rw [w2_1, ← e1] at this
        exact this)
  · exact sa_n hR (fun h => xc_unlike_no p q what c) (fun h => c_unlike_no p q what (by decide) hR.1 c)
