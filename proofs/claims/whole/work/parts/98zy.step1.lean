/-! ===== STEPS: one call on both sides ===== -/
def StA (M1 M2 : qM) (l1 l2 : List qA) (h : qH) (F G : Nat → Nat → Int) (f : Nat → Int) (g : Nat → Nat → Int) : Prop := ∃ (v : Int) (F' G' : Nat → Nat → Int) (f' : Nat → Int) (g' : Nat → Nat → Int), Rel F' G' f' g' ∧ qEx M1 0 (qR 2 :: l1) [] (xput (rput h 220 f g) F G) (some (qI v)) (xput (rput h 220 f g) F' G') ∧ qEx M2 0 (qR 220 :: l2) [] (rput (xput h F' G') 220 f g) (some (qI v)) (rput (xput h F' G') 220 f' g')
def scP (F G F' G' : Nat → Nat → Int) : Prop := (∀ a, a < 172 → F' a = F a ∧ G' a = G a) ∧ thi G' ∧ (F' 216 0 = 0 ∨ F' 216 0 = 1)
section SA
variable {M1 M2 : qM} {l1 l2 : List qA} {h : qH} {F G : Nat → Nat → Int} {f : Nat → Int} {g : Nat → Nat → Int} {v : Int}
theorem sa_n (hR : Rel F G f g) (k1 : ∀ h, qEx M1 0 (qR 2 :: l1) [] (xput h F G) (some (qI v)) (xput h F G)) (k2 : ∀ h, qEx M2 0 (qR 220 :: l2) [] (rput h 220 f g) (some (qI v)) (rput h 220 f g)) : StA M1 M2 l1 l2 h F G f g := ⟨v, F, G, f, g, hR, k1 _, k2 _⟩
theorem sa_m {g' : Nat → Nat → Int} (hR : Rel F G f g) (hs : sq g g') (k1 : ∀ h, qEx M1 0 (qR 2 :: l1) [] (xput h F G) (some (qI v)) (xput h F G)) (k2 : ∀ h, qEx M2 0 (qR 220 :: l2) [] (rput h 220 f g) (some (qI v)) (rput h 220 f g')) : StA M1 M2 l1 l2 h F G f g := ⟨v, F, G, f, g', Rel_scr hR (fun _ _ => ⟨rfl, rfl⟩) hR.2.2.2.2.2.1 hR.2.2.2.2.2.2 (fun _ _ => rfl) hs, k1 _, k2 _⟩
theorem sa_me (hR : Rel F G f g) (k1 : ∀ h, qEx M1 0 (qR 2 :: l1) [] (xput h F G) (some (qI v)) (xput h F G)) (k2 : ∀ h, ∃ g', sq g g' ∧ qEx M2 0 (qR 220 :: l2) [] (rput h 220 f g) (some (qI v)) (rput h 220 f g')) : StA M1 M2 l1 l2 h F G f g := by
  obtain ⟨g', hs, k⟩ := k2 (xput h F G)
  exact ⟨v, F, G, f, g', Rel_scr hR (fun _ _ => ⟨rfl, rfl⟩) hR.2.2.2.2.2.1 hR.2.2.2.2.2.2 (fun _ _ => rfl) hs, k1 _, k⟩
theorem sa_s {g' : Nat → Nat → Int} {P : (Nat → Nat → Int) → (Nat → Nat → Int) → Prop} (hR : Rel F G f g) (hp : ∀ F' G', P F' G' → scP F G F' G') (hs : sq g g') (k1 : ∀ h, ∃ F' G', P F' G' ∧ qEx M1 0 (qR 2 :: l1) [] (xput h F G) (some (qI v)) (xput h F' G')) (k2 : ∀ h, qEx M2 0 (qR 220 :: l2) [] (rput h 220 f g) (some (qI v)) (rput h 220 f g')) : StA M1 M2 l1 l2 h F G f g := by
  obtain ⟨F', G', hP, k⟩ := k1 (rput h 220 f g)
  obtain ⟨e1, e2, e3⟩ := hp F' G' hP
  exact ⟨v, F', G', f, g', Rel_scr hR e1 e2 e3 (fun _ _ => rfl) hs, k, k2 _⟩
theorem sa_e {P : (Nat → Nat → Int) → (Nat → Nat → Int) → Prop} (hR : Rel F G f g) (hp : ∀ F' G', P F' G' → scP F G F' G') (k1 : ∀ h, ∃ F' G', P F' G' ∧ qEx M1 0 (qR 2 :: l1) [] (xput h F G) (some (qI v)) (xput h F' G')) (k2 : ∀ h, ∃ g', sq g g' ∧ qEx M2 0 (qR 220 :: l2) [] (rput h 220 f g) (some (qI v)) (rput h 220 f g')) : StA M1 M2 l1 l2 h F G f g := by
  obtain ⟨F', G', hP, k⟩ := k1 (rput h 220 f g)
  obtain ⟨e1, e2, e3⟩ := hp F' G' hP
  obtain ⟨g', hs, k3⟩ := k2 (xput h F' G')
  exact ⟨v, F', G', f, g', Rel_scr hR e1 e2 e3 (fun _ _ => rfl) hs, k, k3⟩
theorem sc_x {lo hi : Nat} (hR : Rel F G f g) (h1 : 172 ≤ lo) (h2 : hi < 183 ∨ 184 < lo) (h3 : hi < 216 ∨ 216 < lo) : ∀ F' G', xfr lo hi F G F' G' → scP F G F' G' := fun F' G' hx => ⟨fun a ha => hx a (Or.inl (by omega)), fun c h1 h2 => by rw [(hx 183 (by omega)).2, (hx 184 (by omega)).2]; exact hR.2.2.2.2.2.1 c h1 h2, by rw [(hx 216 (by omega)).1]; exact hR.2.2.2.2.2.2⟩
theorem sc_t (hR : Rel F G f g) : ∀ F' G', (xfr 172 205 F G F' G' ∧ thi G') → scP F G F' G' := fun F' G' hx => ⟨fun a ha => hx.1 a (Or.inl (by omega)), hx.2, by rw [(hx.1 216 (by omega)).1]; exact hR.2.2.2.2.2.2⟩
theorem sc_nfr (hR : Rel F G f g) : ∀ F' G', nfr F G F' G' → scP F G F' G' := fun F' G' hx => ⟨fun a ha => ⟨hx.1 a (Or.inl ha), hx.2.1 a (Or.inl (by omega)) (by omega)⟩, fun c h1 h2 => by rw [hx.2.1 183 (by omega) (by omega), hx.2.1 184 (by omega) (by omega)]; exact hR.2.2.2.2.2.1 c h1 h2, by rw [hx.1 216 (by omega)]; exact hR.2.2.2.2.2.2⟩
theorem sc_h (hR : Rel F G f g) : ∀ F' G', (F' = F ∧ ∀ a, a ≠ 219 → G' a = G a) → scP F G F' G' := fun F' G' hx => ⟨fun a ha => ⟨by rw [hx.1], hx.2 a (by omega)⟩, fun c h1 h2 => by rw [hx.2 183 (by omega), hx.2 184 (by omega)]; exact hR.2.2.2.2.2.1 c h1 h2, by rw [hx.1]; exact hR.2.2.2.2.2.2⟩
theorem sc_b (hR : Rel F G f g) : ∀ F' G', ((∀ a, a ≠ 216 → F' a = F a) ∧ (∀ a, a ≠ 217 → a ≠ 218 → G' a = G a) ∧ (F' 216 0 = 0 ∨ F' 216 0 = 1)) → scP F G F' G' := fun F' G' hx => ⟨fun a ha => ⟨hx.1 a (by omega), hx.2.1 a (by omega) (by omega)⟩, fun c h1 h2 => by rw [hx.2.1 183 (by omega) (by omega), hx.2.1 184 (by omega) (by omega)]; exact hR.2.2.2.2.2.1 c h1 h2, hx.2.2⟩
theorem rl_T (hR : Rel F G f g) : ∀ c, c < 648 → G 6 c = ownT g c := by
  obtain ⟨_, ⟨pl, tl, ll, ml, TL, ⟨h1, _⟩, _⟩, _⟩ := hR
  exact h1.1.2.1
theorem rl_D (hR : Rel F G f g) : ∀ c, c < 648 → G 7 c = ownF g c := by
  obtain ⟨_, ⟨pl, tl, ll, ml, TL, ⟨h1, _⟩, _⟩, _⟩ := hR
  exact h1.1.2.2
theorem rl_O (hR : Rel F G f g) : bkOk (g 2) (g 5) := by
  obtain ⟨_, ⟨pl, tl, ll, ml, TL, _, _, _, h4, _⟩, _⟩ := hR
  exact h4.1
theorem rl_O2 (hR : Rel F G f g) : bkOk (g 3) (g 6) := by
  obtain ⟨_, ⟨pl, tl, ll, ml, TL, _, _, _, h4, _⟩, _⟩ := hR
  exact h4.2.1
theorem rl_N (hR : Rel F G f g) : rwOk (g 11) := by
  obtain ⟨_, ⟨pl, tl, ll, ml, TL, _, _, _, h4, _⟩, _⟩ := hR
  exact h4.2.2.1
theorem rl_K (hR : Rel F G f g) : bkR F G 4 (g 2) (g 5) := by
  obtain ⟨_, ⟨pl, tl, ll, ml, TL, ⟨h1, _⟩, _⟩, _⟩ := hR
  exact h1.1.1
theorem rl_K2 (hR : Rel F G f g) : bkR F G 28 (g 3) (g 6) := by
  obtain ⟨_, ⟨pl, tl, ll, ml, TL, ⟨h1, _⟩, _⟩, _⟩ := hR
  exact h1.2.1
theorem rl_S7 (hR : Rel F G f g) : ∀ c, 567 ≤ c → c < 648 → G 6 c = 7 ∧ G 7 c = -1 := fun c h1 h2 => by
  rw [rl_T hR c h2, rl_D hR c h2]
  exact ⟨(bk_hi h1 h2).2, (bk_hi h1 h2).1⟩
theorem rl_B (hR : Rel F G f g) : ∀ c, c < 648 → 0 ≤ ownT g c ∧ ownT g c ≤ 7 := ownT_bd (rl_O hR)
theorem lay_25 {g : Nat → Nat → Int} {c : Nat} (hc : c < 648) : layG g 25 c = ownT g c := by
  unfold layG
  rw [gup_ne (by decide), gup_eq, qmx_lt hc]
theorem rl_T2 (hR : Rel F G f g) : ∀ c, c < 648 → G 6 c = layG g 25 c := fun c hc => by rw [lay_25 hc]; exact rl_T hR c hc
theorem rl_B2 (hR : Rel F G f g) : ∀ c, c < 648 → 0 ≤ layG g 25 c ∧ layG g 25 c ≤ 7 := fun c hc => by rw [lay_25 hc]; exact rl_B hR c hc
end SA
theorem sq_lay {g : Nat → Nat → Int} : sq g (layG g) := sq_up (sq_up sq_rf (by decide)) (by decide)
theorem sq_sc {g g1 : Nat → Nat → Int} {n : Nat} {E : Nat → Int} (h : sq g g1) : sq g (scr g1 n E) := sq_up (sq_up h (by decide)) (by decide)
theorem sq_ly {g g1 : Nat → Nat → Int} (h : sq g g1) : sq g (layG g1) := sq_tr h sq_lay
theorem i_nat {x : Int} (h : 0 ≤ x) : ∃ k : Nat, x = (k : Int) := ⟨x.toNat, by omega⟩
theorem st_fires (n b what : Int) (hnR : R32 n) : Stq M_X11_fires M_X12_fires [qI n, qI b, qI what] [qI n, qI b, qI what] := by
  intro h F G f g hR
  show StA _ _ _ _ h F G f g
  by_cases c : ((1 ≤ n ∧ n ≤ 32) ∧ 0 ≤ b ∧ b < n)
  · obtain ⟨n, rfl⟩ := i_nat (show 0 ≤ n by omega)
    obtain ⟨b, rfl⟩ := i_nat (show 0 ≤ b by omega)
    have hn : 1 ≤ n ∧ n ≤ 32 := ⟨by omega, by omega⟩
    by_cases w : 0 ≤ what ∧ what ≤ 2
    · obtain rfl | rfl | rfl : what = 0 ∨ what = 1 ∨ what = 2 := by omega
      · exact sa_s hR (sc_x hR (by decide) (by decide) (by decide)) (sq_sc sq_lay) (fun h => xc_fires0 hn (by omega) (rl_T hR) (rl_B hR)) (fun h => c_fires0 _ (by decide) hR.1 hn ⟨by omega, by omega⟩ (rl_O hR))
      · exact sa_s hR (sc_x hR (by decide) (by decide) (by decide)) (sq_sc sq_lay) (fun h => xc_fires1 hn (by omega) (rl_T hR) (rl_B hR)) (fun h => c_fires1 _ (by decide) hR.1 hn ⟨by omega, by omega⟩ (rl_O hR))
      · exact sa_s hR (sc_x hR (by decide) (by decide) (by decide)) (sq_sc sq_lay) (fun h => xc_fires2 hn (by omega) (rl_T hR) (rl_B hR)) (fun h => c_fires2 _ (by decide) hR.1 hn ⟨by omega, by omega⟩ (rl_O hR))
    · exact sa_s hR (sc_x hR (by decide) (by decide) (by decide)) sq_rf (fun h => xc_fires_out what hn (by omega) w (rl_T hR) (rl_B hR)) (fun h => c_fires_no _ _ what (by decide) hR.1 hnR (fun z => w z.2))
  · exact sa_n hR (fun h => xc_fires_no n b what hnR c) (fun h => c_fires_no n b what (by decide) hR.1 hnR (fun z => c z.1))
theorem st_ring (n b what : Int) (hnR : R32 n) : Stq M_X11_ring M_X12_ring [qI n, qI b, qI what] [qI n, qI b, qI what] := by
  intro h F G f g hR
  show StA _ _ _ _ h F G f g
  by_cases c : ((1 ≤ n ∧ n ≤ 32) ∧ 0 ≤ b ∧ b < n)
  · obtain ⟨n, rfl⟩ := i_nat (show 0 ≤ n by omega)
    obtain ⟨b, rfl⟩ := i_nat (show 0 ≤ b by omega)
    have hn : 1 ≤ n ∧ n ≤ 32 := ⟨by omega, by omega⟩
    by_cases w : 0 ≤ what ∧ what ≤ 2
    · obtain rfl | rfl | rfl : what = 0 ∨ what = 1 ∨ what = 2 := by omega
      · exact sa_s hR (sc_x hR (by decide) (by decide) (by decide)) (sq_sc sq_lay) (fun h => xc_ring0 hn (by omega) (rl_T hR) (rl_B hR)) (fun h => c_ring0 _ (by decide) hR.1 hn ⟨by omega, by omega⟩ (rl_O hR))
      · exact sa_s hR (sc_x hR (by decide) (by decide) (by decide)) (sq_sc sq_lay) (fun h => xc_ring1 hn (by omega) (rl_T hR) (rl_B hR)) (fun h => c_ring1 _ (by decide) hR.1 hn ⟨by omega, by omega⟩ (rl_O hR))
      · exact sa_s hR (sc_x hR (by decide) (by decide) (by decide)) (sq_sc sq_lay) (fun h => xc_ring2 hn (by omega) (rl_T hR) (rl_B hR)) (fun h => c_ring2 _ (by decide) hR.1 hn ⟨by omega, by omega⟩ (rl_O hR))
    · exact sa_s hR (sc_x hR (by decide) (by decide) (by decide)) sq_rf (fun h => xc_ring_out what hn (by omega) w (rl_T hR) (rl_B hR)) (fun h => c_ring_no _ _ what (by decide) hR.1 hnR (fun z => w z.2))
  · exact sa_n hR (fun h => xc_ring_no n b what hnR c) (fun h => c_ring_no n b what (by decide) hR.1 hnR (fun z => c z.1))
theorem st_two (to d : Int) : Stq M_X11_two M_X12_two [qI to, qI d, qU] [qI to, qI d, qU] := by
  intro h F G f g hR
  show StA _ _ _ _ h F G f g
  by_cases c : (2 ≤ to ∧ to ≤ 24) ∧ 0 ≤ d ∧ d ≤ 40
  · obtain ⟨to, rfl⟩ := i_nat (show 0 ≤ to by omega)
    exact sa_s hR (sc_x hR (by decide) (by decide) (by decide)) (sq_sc sq_lay) (fun h => xc_two d ⟨by omega, by omega⟩ c.2 (rl_T2 hR) (rl_B2 hR)) (fun h => c_two d (by decide) hR.1 ⟨by omega, by omega⟩ c.2 (rl_O hR))
  · exact sa_n hR (fun h => xc_two_no to d c) (fun h => c_two_no to d (by decide) hR.1 c)
theorem st_soon (n b what : Int) (hnR : R32 n) : Stq M_X11_soon M_X12_soon [qI n, qI b, qI what, qU, qU] [qI n, qI b, qI what, qU, qU] := by
  intro h F G f g hR
  show StA _ _ _ _ h F G f g
  by_cases c : ((1 ≤ n ∧ n ≤ 32) ∧ 0 ≤ b ∧ b < n) ∧ 0 ≤ what ∧ what ≤ 1
  · obtain ⟨n, rfl⟩ := i_nat (show 0 ≤ n by omega)
    obtain ⟨b, rfl⟩ := i_nat (show 0 ≤ b by omega)
    have hn : 1 ≤ n ∧ n ≤ 32 := ⟨by omega, by omega⟩
    obtain rfl | rfl : what = 0 ∨ what = 1 := by omega
    · exact sa_n hR (fun h => xc_soon0 hn (by omega)) (fun h => c_soon0 _ (by decide) hR.1 hn ⟨by omega, by omega⟩)
    · exact sa_s hR (sc_x hR (by decide) (by decide) (by decide)) (sq_sc sq_lay) (fun h => xc_soon1 hn (by omega) (rl_T hR) (rl_B hR)) (fun h => c_soon1 _ (by decide) hR.1 hn ⟨by omega, by omega⟩ (rl_O hR))
  · exact sa_n hR (fun h => xc_soon_no n b what hnR c) (fun h => c_soon_no n b what (by decide) hR.1 hnR c)
theorem st_fault (n : Int) : Stq M_X11_fault M_X12_fault [qI n] [qI n] := by
  intro h F G f g hR
  show StA _ _ _ _ h F G f g
  have h6 := hR.2.2.1
  obtain ⟨N, L, _, ⟨e1, e2⟩, _⟩ := h6
  by_cases c0 : n = 0
  · subst c0
    exact sa_n hR (fun h => xc_fault0) (fun h => by have := c_fault (h := h) (m := 220) (f := f) (g := g) 0 (by decide) hR.1; rw [if_pos rfl, ← e1] at this; exact this)
  · by_cases c1 : n = 1
    · subst c1
      exact sa_n hR (fun h => xc_fault1) (fun h => by have := c_fault (h := h) (m := 220) (f := f) (g := g) 1 (by decide) hR.1; rw [if_neg (by decide), if_pos rfl, ← e2] at this; exact this)
    · exact sa_n hR (fun h => xc_fault_no n ⟨c0, c1⟩) (fun h => by have := c_fault (h := h) (m := 220) (f := f) (g := g) n (by decide) hR.1; rw [if_neg c0, if_neg c1] at this; exact this)
theorem st_works (to what : Int) : Stq M_X11_works M_X12_works [qI to, qI what, qU] [qI to, qI what, qU] := by
  intro h F G f g hR
  show StA _ _ _ _ h F G f g
  by_cases c : (1 ≤ to ∧ to ≤ 24) ∧ 0 ≤ what ∧ what ≤ 2
  · obtain ⟨to, rfl⟩ := i_nat (show 0 ≤ to by omega)
    have ht : 1 ≤ to ∧ to ≤ 24 := ⟨by omega, by omega⟩
    obtain rfl | rfl | rfl : what = 0 ∨ what = 1 ∨ what = 2 := by omega
    · exact sa_s hR (sc_x hR (by decide) (by decide) (by decide)) (sq_sc sq_lay) (fun h => xc_works0 ht (rl_T hR) (rl_B hR)) (fun h => c_works0 (by decide) hR.1 ht (rl_O hR))
    · by_cases z : fbR (ownT g) to = -1
      · exact sa_s hR (sc_x hR (by decide) (by decide) (by decide)) (sq_sc sq_lay) (fun h => xc_works1_all ht z (rl_T hR) (rl_B hR)) (fun h => c_works1_all (by decide) hR.1 ht (rl_O hR) z)
      · exact sa_s hR (sc_x hR (by decide) (by decide) (by decide)) (sq_sc (sq_ly (sq_sc sq_lay))) (fun h => xc_works1 ht z (rl_T hR) (rl_B hR)) (fun h => c_works1 (by decide) hR.1 ht (rl_O hR) z)
    · by_cases z : fbR (ownT g) to = -1
      · exact sa_s hR (sc_x hR (by decide) (by decide) (by decide)) (sq_sc sq_lay) (fun h => xc_works2_all ht z (rl_T hR) (rl_B hR)) (fun h => c_works2_all (by decide) hR.1 ht (rl_O hR) z)
      · exact sa_s hR (sc_x hR (by decide) (by decide) (by decide)) (sq_sc (sq_ly (sq_sc sq_lay))) (fun h => xc_works2 ht z (rl_T hR) (rl_B hR)) (fun h => c_works2 (by decide) hR.1 ht (rl_O hR) z)
  · exact sa_n hR (fun h => xc_works_no to what c) (fun h => c_works_no to what (by decide) hR.1 c)
theorem st_says (o l r0 what : Int) : Stq M_X11_says M_X12_says [qI o, qI l, qI r0, qI what, qU] [qI o, qI l, qI r0, qI what] := by
  intro h F G f g hR
  show StA _ _ _ _ h F G f g
  by_cases c : (0 ≤ o ∧ o ≤ 7) ∧ (0 ≤ l ∧ l ≤ 8) ∧ (0 ≤ r0 ∧ r0 ≤ 8) ∧ 0 ≤ what ∧ what ≤ 1
  · obtain ⟨o, rfl⟩ := i_nat (show 0 ≤ o by omega)
    obtain ⟨l, rfl⟩ := i_nat (show 0 ≤ l by omega)
    obtain ⟨r0, rfl⟩ := i_nat (show 0 ≤ r0 by omega)
    obtain rfl | rfl : what = 0 ∨ what = 1 := by omega
    · exact sa_m hR sq_lay (fun h => xc_says0 o l r0 (by omega) (by omega) (by omega) (rl_T hR)) (fun h => c_says0 o l r0 (by decide) hR.1 (by omega) (by omega) (by omega))
    · exact sa_m hR sq_lay (fun h => xc_says1 o l r0 (by omega) (by omega) (by omega) (rl_D hR)) (fun h => c_says1 o l r0 (by decide) hR.1 (by omega) (by omega) (by omega))
  · exact sa_n hR (fun h => xc_says_no o l r0 what c) (fun h => c_says_no o l r0 what (by decide) hR.1 c)
theorem st_quiet (what : Int) : Stq M_X11_quiet M_X12_quiet [qI what, qU, qU, qU] [qI what, qU, qU] := by
  intro h F G f g hR
  show StA _ _ _ _ h F G f g
  by_cases c : 0 ≤ what ∧ what ≤ 1
  · obtain rfl | rfl : what = 0 ∨ what = 1 := by omega
    · exact sa_m hR sq_lay (fun h => xc_quiet0 (rl_T hR)) (fun h => c_quiet0 (by decide) hR.1)
    · exact sa_m hR sq_lay (fun h => xc_quiet1 (rl_T hR)) (fun h => c_quiet1 (by decide) hR.1)
  · exact sa_n hR (fun h => xc_quiet_no what c) (fun h => c_quiet_no what (by decide) hR.1 c)
theorem sq_rs {g g1 : Nat → Nat → Int} {n t : Nat} {M : Nat → Int} (h : sq g g1) : sq g (rsG g1 n M t) := by
  unfold rsG
  first | exact sq_up (sq_up h (by decide)) (by decide) | (split <;> first | exact h | exact sq_up (sq_up h (by decide)) (by decide))
theorem st_picture (n b t k : Int) (hnR : R32 n) : Stq M_X11_picture M_X12_picture [qI n, qI b, qI t, qI k, qU, qU] [qI n, qI b, qI t, qI k, qU] := by
  intro h F G f g hR
  show StA _ _ _ _ h F G f g
  by_cases c : ((1 ≤ n ∧ n ≤ 32) ∧ 0 ≤ b ∧ b < n) ∧ (0 ≤ t ∧ t ≤ 116) ∧ 0 ≤ k ∧ k < n
  · obtain ⟨n, rfl⟩ := i_nat (show 0 ≤ n by omega)
    obtain ⟨b, rfl⟩ := i_nat (show 0 ≤ b by omega)
    obtain ⟨k, rfl⟩ := i_nat (show 0 ≤ k by omega)
    have hn : 1 ≤ n ∧ n ≤ 32 := ⟨by omega, by omega⟩
    exact sa_s hR (sc_x hR (by decide) (by decide) (by decide)) (sq_rs sq_lay) (fun h => xc_picture t k hn (by omega) c.2.1 (by omega) (rl_T2 hR) (rl_B2 hR)) (fun h => c_picture _ t k (by decide) hR.1 hn ⟨by omega, by omega⟩ (rl_O hR) c.2.1 (by omega))
  · exact sa_n hR (fun h => xc_picture_no n b t k hnR c) (fun h => c_picture_no n b t k (by decide) hR.1 hnR c)
theorem st_mark (n b t k : Int) (hnR : R32 n) : Stq M_X11_mark M_X12_mark [qI n, qI b, qI t, qI k, qU, qU] [qI n, qI b, qI t, qI k, qU] := by
  intro h F G f g hR
  show StA _ _ _ _ h F G f g
  by_cases c : ((1 ≤ n ∧ n ≤ 32) ∧ 0 ≤ b ∧ b < n) ∧ (0 ≤ t ∧ t ≤ 7) ∧ 0 ≤ k ∧ k < n
  · obtain ⟨n, rfl⟩ := i_nat (show 0 ≤ n by omega)
    obtain ⟨b, rfl⟩ := i_nat (show 0 ≤ b by omega)
    obtain ⟨k, rfl⟩ := i_nat (show 0 ≤ k by omega)
    have hn : 1 ≤ n ∧ n ≤ 32 := ⟨by omega, by omega⟩
    exact sa_s hR (sc_x hR (by decide) (by decide) (by decide)) (sq_rs sq_lay) (fun h => xc_mark t k hn (by omega) c.2.1 (by omega) (rl_T2 hR) (rl_B2 hR)) (fun h => c_mark _ t k (by decide) hR.1 hn ⟨by omega, by omega⟩ (rl_O hR) c.2.1 (by omega))
  · exact sa_n hR (fun h => xc_mark_no n b t k hnR c) (fun h => c_mark_no n b t k (by decide) hR.1 hnR c)
theorem st_deafened (n b what : Int) (hnR : R32 n) : Stq M_X11_deafened M_X12_deafened [qI n, qI b, qI what, qU, qU, qU, qU, qU] [qI n, qI b, qI what, qU, qU, qU, qU] := by
  intro h F G f g hR
  show StA _ _ _ _ h F G f g
  by_cases c : ((1 ≤ n ∧ n ≤ 32) ∧ 0 ≤ b ∧ b < n) ∧ 0 ≤ what ∧ what ≤ 1
  · obtain ⟨n, rfl⟩ := i_nat (show 0 ≤ n by omega)
    obtain ⟨b, rfl⟩ := i_nat (show 0 ≤ b by omega)
    have hn : 1 ≤ n ∧ n ≤ 32 := ⟨by omega, by omega⟩
    obtain rfl | rfl : what = 0 ∨ what = 1 := by omega
    · exact sa_s hR (sc_x hR (by decide) (by decide) (by decide)) (sq_rs sq_lay) (fun h => xc_deafened0 hn (by omega) (rl_T2 hR) (rl_B2 hR)) (fun h => c_deafened0 b (by decide) hR.1 hn (by omega) (rl_O hR))
    · exact sa_s hR (sc_x hR (by decide) (by decide) (by decide)) (sq_rs sq_lay) (fun h => xc_deafened1 hn (by omega) (rl_T2 hR) (rl_B2 hR)) (fun h => c_deafened1 b (by decide) hR.1 hn (by omega) (rl_O hR))
  · exact sa_n hR (fun h => xc_deafened_no n b what hnR c) (fun h => c_deafened_no n b what (by decide) hR.1 hnR c)
theorem st_stir (n b what : Int) (hnR : R32 n) : Stq M_X11_stir M_X12_stir [qI n, qI b, qI what, qU, qU, qU, qU, qU] [qI n, qI b, qI what, qU, qU, qU, qU, qU] := by
  intro h F G f g hR
  show StA _ _ _ _ h F G f g
  by_cases c : ((1 ≤ n ∧ n ≤ 32) ∧ 0 ≤ b ∧ b < n) ∧ 0 ≤ what ∧ what ≤ 2
  · obtain ⟨n, rfl⟩ := i_nat (show 0 ≤ n by omega)
    obtain ⟨b, rfl⟩ := i_nat (show 0 ≤ b by omega)
    have hn : 1 ≤ n ∧ n ≤ 32 := ⟨by omega, by omega⟩
    obtain rfl | rfl | rfl : what = 0 ∨ what = 1 ∨ what = 2 := by omega
    · exact sa_s hR (sc_x hR (by decide) (by decide) (by decide)) (sq_up (sq_rs sq_lay) (by decide)) (fun h => xc_stir0 hn (by omega) (rl_T2 hR) (rl_B2 hR)) (fun h => c_stir0 _ (by decide) hR.1 hn ⟨by omega, by omega⟩ (rl_O hR))
    · exact sa_s hR (sc_x hR (by decide) (by decide) (by decide)) (sq_up (sq_rs sq_lay) (by decide)) (fun h => xc_stir1 hn (by omega) (rl_T2 hR) (rl_B2 hR)) (fun h => c_stir1 _ (by decide) hR.1 hn ⟨by omega, by omega⟩ (rl_O hR))
    · exact sa_s hR (sc_x hR (by decide) (by decide) (by decide)) (sq_up (sq_rs sq_lay) (by decide)) (fun h => xc_stir2 hn (by omega) (rl_T2 hR) (rl_B2 hR)) (fun h => c_stir2 _ (by decide) hR.1 hn ⟨by omega, by omega⟩ (rl_O hR))
  · exact sa_n hR (fun h => xc_stir_no n b what hnR c) (fun h => c_stir_no n b what (by decide) hR.1 hnR c)
theorem w3_0 {a b c : Int} : qif ((0 : Int) ≠ 0) (qif ((0 : Int) ≠ 1) a b) c = c := qif_f (fun z => z rfl)
theorem w3_1 {a b c : Int} : qif ((1 : Int) ≠ 0) (qif ((1 : Int) ≠ 1) a b) c = b := by rw [qif_t (show (1 : Int) ≠ 0 by decide), qif_f (fun z => z rfl)]
theorem w3_2 {a b c : Int} : qif ((2 : Int) ≠ 0) (qif ((2 : Int) ≠ 1) a b) c = a := by rw [qif_t (show (2 : Int) ≠ 0 by decide), qif_t (show (2 : Int) ≠ 1 by decide)]
theorem st_crowd (n b md what : Int) (hnR : R32 n) : Stq M_X11_crowd M_X12_crowd [qI n, qI b, qI md, qI what, qU, qU, qU, qU, qU, qU] [qI n, qI b, qI md, qI what, qU, qU, qU, qU, qU, qU] := by
  intro h F G f g hR
  show StA _ _ _ _ h F G f g
  by_cases c : ((1 ≤ n ∧ n ≤ 32) ∧ 0 ≤ b ∧ b < n) ∧ (0 ≤ md ∧ md ≤ 7) ∧ 0 ≤ what ∧ what ≤ 2
  · obtain ⟨n, rfl⟩ := i_nat (show 0 ≤ n by omega)
    obtain ⟨b, rfl⟩ := i_nat (show 0 ≤ b by omega)
    have hn : 1 ≤ n ∧ n ≤ 32 := ⟨by omega, by omega⟩
    obtain rfl | rfl | rfl : what = 0 ∨ what = 1 ∨ what = 2 := by omega
    · exact sa_e hR (sc_x hR (by decide) (by decide) (by decide)) (fun h => xc_crowd0 md hn (by omega) c.2.1 (rl_T hR) (rl_B hR)) (fun h => by
        have := c_crowd (h := h) (m := 220) (f := f) (g := g) (n := n) (b : Int) md 0 (by decide) hR.1 hn ⟨by omega, by omega⟩ c.2.1 (by decide) (rl_O hR)
        rw [w3_0] at this
        exact this)
    · exact sa_e hR (sc_x hR (by decide) (by decide) (by decide)) (fun h => xc_crowd1 md hn (by omega) c.2.1 (rl_T hR) (rl_B hR)) (fun h => by
        have := c_crowd (h := h) (m := 220) (f := f) (g := g) (n := n) (b : Int) md 1 (by decide) hR.1 hn ⟨by omega, by omega⟩ c.2.1 (by decide) (rl_O hR)
        rw [w3_1] at this
        exact this)
    · exact sa_e hR (sc_x hR (by decide) (by decide) (by decide)) (fun h => xc_crowd2 md hn (by omega) c.2.1 (rl_T hR) (rl_B hR)) (fun h => by
        have := c_crowd (h := h) (m := 220) (f := f) (g := g) (n := n) (b : Int) md 2 (by decide) hR.1 hn ⟨by omega, by omega⟩ c.2.1 (by decide) (rl_O hR)
        rw [w3_2] at this
        exact this)
  · exact sa_n hR (fun h => xc_crowd_no n b md what hnR c) (fun h => c_crowd_no n b md what (by decide) hR.1 hnR c)
theorem st_begun (n what : Int) : Stq M_X11_begun M_X12_begun [qI n, qI what, qU, qU, qU, qU, qU, qU] [qI n, qI what, qU, qU, qU, qU, qU, qU] := by
  intro h F G f g hR
  show StA _ _ _ _ h F G f g
  by_cases c : (1 ≤ n ∧ n ≤ 32) ∧ 0 ≤ what ∧ what ≤ 2
  · obtain ⟨n, rfl⟩ := i_nat (show 0 ≤ n by omega)
    have hn : 1 ≤ n ∧ n ≤ 32 := ⟨by omega, by omega⟩
    obtain rfl | rfl | rfl : what = 0 ∨ what = 1 ∨ what = 2 := by omega
    · exact sa_e hR (sc_x hR (by decide) (by decide) (by decide)) (fun h => xc_begun0 hn (rl_T hR) (rl_B hR)) (fun h => by
        have := c_begun (h := h) (m := 220) (f := f) (g := g) (n := n) 0 (by decide) hR.1 hn (by decide) (rl_O hR)
        rw [w3_0] at this
        exact this)
    · exact sa_e hR (sc_x hR (by decide) (by decide) (by decide)) (fun h => xc_begun1 hn (rl_T hR) (rl_B hR)) (fun h => by
        have := c_begun (h := h) (m := 220) (f := f) (g := g) (n := n) 1 (by decide) hR.1 hn (by decide) (rl_O hR)
        rw [w3_1] at this
        exact this)
    · exact sa_e hR (sc_x hR (by decide) (by decide) (by decide)) (fun h => xc_begun2 hn (rl_T hR) (rl_B hR)) (fun h => by
        have := c_begun (h := h) (m := 220) (f := f) (g := g) (n := n) 2 (by decide) hR.1 hn (by decide) (rl_O hR)
        rw [w3_2] at this
        exact this)
  · exact sa_n hR (fun h => xc_begun_no n what c) (fun h => c_begun_no n what (by decide) hR.1 c)
