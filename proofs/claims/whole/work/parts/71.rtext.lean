/-! ===== CONTRACTS: the reference: text ===== -/
theorem y_in2 {M : qM} {pc : Nat} {ls st : List qA} {h h' : qH} {m : Nat} {ρ : Option qA} {P : (Nat → Int) → (Nat → Nat → Int) → Prop} (k : ∀ Q : Option qA → qH → Prop, (∀ f' g', P f' g' → Q ρ (rput h' m f' g')) → qEy M pc ls st h Q) : ∃ f' g', P f' g' ∧ qEx M pc ls st h ρ (rput h' m f' g') := by
  obtain ⟨r, hr, ⟨f', g', hp, e1, e2⟩, hx⟩ := k (fun r hr => ∃ f' g', P f' g' ∧ r = ρ ∧ hr = rput h' m f' g') (fun f' g' hp => ⟨f', g', hp, rfl, rfl⟩)
  subst e1; subst e2
  exact ⟨f', g', hp, hx⟩
theorem row4_at (F : Nat → Int) (L : Nat) (a b c d : Int) (j : Nat) : row4 F (4 * L) a b c d j = if j / 4 = L then (if j % 4 = 0 then a else if j % 4 = 1 then b else if j % 4 = 2 then c else d) else F j := by
  unfold row4 qup
  by_cases h : j / 4 = L
  · rw [if_pos h]
    by_cases h3 : j = 4 * L + 3
    · rw [if_pos h3, if_neg (by omega), if_neg (by omega), if_neg (by omega)]
    · rw [if_neg h3]
      by_cases h2 : j = 4 * L + 2
      · rw [if_pos h2, if_neg (by omega), if_neg (by omega), if_pos (by omega)]
      · rw [if_neg h2]
        by_cases h1 : j = 4 * L + 1
        · rw [if_pos h1, if_neg (by omega), if_pos (by omega)]
        · rw [if_neg h1, if_pos (show j = 4 * L by omega), if_pos (by omega)]
  · rw [if_neg h, if_neg (by omega), if_neg (by omega), if_neg (by omega), if_neg (by omega)]
section TextWords
variable (B : Nat → Int) (N : Nat)
def gon (s : pS) : Prop := s.2.1 = 0 ∧ s.1 < N
/-- pages -/
noncomputable def lpS (L : Nat) (s : pS) : pS := qif (ckK B N L s.1 ≠ 0) (s.1, ckK B N L s.1, (s.1 : Int)) (lnS B N s)
noncomputable def lpV (s : pS) (k : Nat) : Int := if k = 0 then seV B N s else if k = 1 then seV B N (seS B N s) else if k = 2 then seV B N (seS B N (seS B N s)) else lnM B N s
noncomputable def pgS : Nat → pS
  | 0 => skS B N (0, 0, -1)
  | i + 1 => skS B N (lpS B N i (pgS i))
noncomputable def pgJ : Nat := utl (fun i => ¬ gon N (pgS B N i)) 25
/-- plans -/
noncomputable def ckP (W : Int) (L p : Nat) : Int := qif (kd B N p = W) (qif (L = 16) 3 0) 1
noncomputable def lqS (L : Nat) (s : pS) : pS := qif (ckP B N 10 L s.1 ≠ 0) (s.1, ckP B N 10 L s.1, (s.1 : Int)) (plS B N s)
noncomputable def lqV (s : pS) (k : Nat) : Int := if k = 0 then nuV B N (tkS B N 10 s) else if k = 1 then plW B N s else if k = 2 then nuV B N (pl3 B N s) else plM B N s
noncomputable def pnS : Nat → pS
  | 0 => skS B N (0, 0, -1)
  | i + 1 => skS B N (lqS B N i (pnS i))
noncomputable def pnJ : Nat := utl (fun i => ¬ gon N (pnS B N i)) 17
/-- trees -/
noncomputable def ltS (A : Nat → Int) (L : Nat) (s : pS) : pS := qif (ckP B N 17 L s.1 ≠ 0) (s.1, ckP B N 17 L s.1, (s.1 : Int)) (trS B N A s)
noncomputable def ltX (A : Nat → Int) (L : Nat) (s : pS) : Nat → Int := qif (ckP B N 17 L s.1 ≠ 0) A (trX B N A s)
noncomputable def tnX (A0 : Nat → Int) : Nat → pS × (Nat → Int)
  | 0 => (skS B N (0, 0, -1), A0)
  | i + 1 => (skS B N (ltS B N (tnX A0 i).2 i (tnX A0 i).1), ltX B N (tnX A0 i).2 i (tnX A0 i).1)
noncomputable def tnJ (A0 : Nat → Int) : Nat := utl (fun i => ¬ gon N (tnX B N A0 i).1) 17
end TextWords
theorem ckK_0 {B : Nat → Int} {N L p : Nat} (h : ckK B N L p = 0) : (kd B N p = 6 ∨ kd B N p = 7 ∨ kd B N p = 8 ∨ kd B N p = 2) ∧ ¬ (kd B N p = 2 ∧ vl B N p ≥ 8) ∧ L ≠ 24 := by
  unfold ckK at h
  by_cases c1 : kd B N p = 6 ∨ kd B N p = 7 ∨ kd B N p = 8 ∨ kd B N p = 2
  · rw [qif_t c1] at h
    by_cases c2 : kd B N p = 2 ∧ vl B N p ≥ 8
    · rw [qif_t c2] at h; exact absurd h (by decide)
    · rw [qif_f c2] at h
      by_cases c3 : L = 24
      · rw [qif_t c3] at h; exact absurd h (by decide)
      · exact ⟨c1, c2, c3⟩
  · rw [qif_f c1] at h; exact absurd h (by decide)
theorem ckP_0 {B : Nat → Int} {N L p : Nat} {W : Int} (h : ckP B N W L p = 0) : kd B N p = W ∧ L ≠ 16 := by
  unfold ckP at h
  by_cases c1 : kd B N p = W
  · rw [qif_t c1] at h
    by_cases c3 : L = 16
    · rw [qif_t c3] at h; exact absurd h (by decide)
    · exact ⟨c1, c3⟩
  · rw [qif_f c1] at h; exact absurd h (by decide)
theorem lpS_le {B : Nat → Int} {N L : Nat} {s : pS} (h : s.1 ≤ N) : (lpS B N L s).1 ≤ N := qif_or (fun z : pS => z.1 ≤ N) h (lnS_le h)
theorem lqS_le {B : Nat → Int} {N L : Nat} {s : pS} (h : s.1 ≤ N) : (lqS B N L s).1 ≤ N := qif_or (fun z : pS => z.1 ≤ N) h (plS_le h)
theorem ltS_le {B : Nat → Int} {N L : Nat} {A : Nat → Int} {s : pS} (h : s.1 ≤ N) : (ltS B N A L s).1 ≤ N := qif_or (fun z : pS => z.1 ≤ N) h (trS_le h)
theorem pgS_le {B : Nat → Int} {N : Nat} : ∀ i, (pgS B N i).1 ≤ N
  | 0 => skS_le (Nat.zero_le _)
  | i + 1 => skS_le (lpS_le (pgS_le i))
theorem pgS_sk {B : Nat → Int} {N : Nat} : ∀ i, sk B N (pgS B N i).1 = (pgS B N i).1
  | 0 => sk_sk (Nat.zero_le _)
  | i + 1 => sk_sk (lpS_le (pgS_le i))
theorem pnS_le {B : Nat → Int} {N : Nat} : ∀ i, (pnS B N i).1 ≤ N
  | 0 => skS_le (Nat.zero_le _)
  | i + 1 => skS_le (lqS_le (pnS_le i))
theorem pnS_sk {B : Nat → Int} {N : Nat} : ∀ i, sk B N (pnS B N i).1 = (pnS B N i).1
  | 0 => sk_sk (Nat.zero_le _)
  | i + 1 => sk_sk (lqS_le (pnS_le i))
theorem tnX_le {B : Nat → Int} {N : Nat} {A0 : Nat → Int} : ∀ i, (tnX B N A0 i).1.1 ≤ N
  | 0 => skS_le (Nat.zero_le _)
  | i + 1 => skS_le (ltS_le (tnX_le i))
theorem tnX_sk {B : Nat → Int} {N : Nat} {A0 : Nat → Int} : ∀ i, sk B N (tnX B N A0 i).1.1 = (tnX B N A0 i).1.1
  | 0 => sk_sk (Nat.zero_le _)
  | i + 1 => sk_sk (ltS_le (tnX_le i))
theorem y_lineOfPage {h : qH} {m : Nat} {f : Nat → Int} {g : Nat → Nat → Int} {N L : Nat} (s : pS) (hm : 2 ≤ m) (hN : f 2 = (N : Int)) (hN4 : N ≤ 400) (ha : s.1 ≤ N) (hsk : sk (g 1) N s.1 = s.1) (hs0 : s.2.1 = 0) (hL : L ≤ 24) : ∃ l' y', ((∀ j, j ≠ 4 → y' j = g j) ∧ ((lpS (g 1) N L s).2.1 = 0 → l' = (L : Int) + 1 ∧ L < 24 ∧ ∀ j, y' 4 j = if j / 4 = L then lpV (g 1) N s (j % 4) else g 4 j)) ∧ qEx M_X12_lineOfPage 0 [qR m, qU] [] (rput h m (qup (qup (qup (qup f 20 (L : Int)) 3 ((s.1 : Nat) : Int)) 4 s.2.1) 5 s.2.2) g) none (rput h m (qup (qup (qup (qup f 20 l') 3 (((lpS (g 1) N L s).1 : Nat) : Int)) 4 ((lpS (g 1) N L s).2.1)) 5 ((lpS (g 1) N L s).2.2)) y') := by
  by_cases c : ckK (g 1) N L s.1 = 0
  · obtain ⟨c1, c2, c3⟩ := ckK_0 c
    have e : lpS (g 1) N L s = lnS (g 1) N s := qif_f (fun z => z c)
    rw [e]
    refine ⟨_, _, ⟨fun j hj => gup_ne hj, fun _ => ⟨rfl, by omega, fun j => ?_⟩⟩, c_lineOfPage s hm hN hN4 ha hsk hs0 hL ⟨c1, c2, by omega⟩⟩
    rw [gup_eq, row4_at]
    rfl
  · have e : lpS (g 1) N L s = (s.1, ckK (g 1) N L s.1, (s.1 : Int)) := qif_t c
    rw [e]
    refine ⟨(L : Int), g, ⟨fun j _ => rfl, fun z => absurd z c⟩, ?_⟩
    unfold ckK at c ⊢
    by_cases c1 : kd (g 1) N s.1 = 6 ∨ kd (g 1) N s.1 = 7 ∨ kd (g 1) N s.1 = 8 ∨ kd (g 1) N s.1 = 2
    · rw [qif_t c1] at c ⊢
      by_cases c2 : kd (g 1) N s.1 = 2 ∧ vl (g 1) N s.1 ≥ 8
      · rw [qif_t c2]; exact c_lineOfPage2 s hm hN hN4 ha hsk hs0 hL c2
      · rw [qif_f c2] at c ⊢
        by_cases c3 : L = 24
        · rw [qif_t c3]; exact c_lineOfPage3 s hm hN hN4 ha hsk hs0 hL ⟨c1, c2, c3⟩
        · rw [qif_f c3] at c; exact absurd rfl c
    · rw [qif_f c1]; exact c_lineOfPage1 s hm hN hN4 ha hsk hs0 hL c1
theorem y_lineOfPlan {h : qH} {m : Nat} {f : Nat → Int} {g : Nat → Nat → Int} {N L : Nat} (s : pS) (hm : 2 ≤ m) (hN : f 2 = (N : Int)) (hN4 : N ≤ 400) (ha : s.1 ≤ N) (hsk : sk (g 1) N s.1 = s.1) (hs0 : s.2.1 = 0) (hL : L ≤ 16) : ∃ l' y', ((∀ j, j ≠ 8 → y' j = g j) ∧ ((lqS (g 1) N L s).2.1 = 0 → l' = (L : Int) + 1 ∧ L < 16 ∧ ∀ j, y' 8 j = if j / 4 = L then lqV (g 1) N s (j % 4) else g 8 j)) ∧ qEx M_X12_lineOfPlan 0 [qR m, qU] [] (rput h m (qup (qup (qup (qup f 20 (L : Int)) 3 ((s.1 : Nat) : Int)) 4 s.2.1) 5 s.2.2) g) none (rput h m (qup (qup (qup (qup f 20 l') 3 (((lqS (g 1) N L s).1 : Nat) : Int)) 4 ((lqS (g 1) N L s).2.1)) 5 ((lqS (g 1) N L s).2.2)) y') := by
  by_cases c : ckP (g 1) N 10 L s.1 = 0
  · obtain ⟨c1, c3⟩ := ckP_0 c
    have e : lqS (g 1) N L s = plS (g 1) N s := qif_f (fun z => z c)
    rw [e]
    refine ⟨_, _, ⟨fun j hj => gup_ne hj, fun _ => ⟨rfl, by omega, fun j => ?_⟩⟩, c_lineOfPlan s hm hN hN4 ha hsk hs0 hL ⟨c1, by omega⟩⟩
    rw [gup_eq, row4_at]; rfl
  · have e : lqS (g 1) N L s = (s.1, ckP (g 1) N 10 L s.1, (s.1 : Int)) := qif_t c
    rw [e]
    refine ⟨(L : Int), g, ⟨fun j _ => rfl, fun z => absurd z c⟩, ?_⟩
    unfold ckP at c ⊢
    by_cases c1 : kd (g 1) N s.1 = 10
    · rw [qif_t c1] at c ⊢
      by_cases c3 : L = 16
      · rw [qif_t c3]; exact c_lineOfPlan3 s hm hN hN4 ha hsk hs0 hL ⟨c1, c3⟩
      · rw [qif_f c3] at c; exact absurd rfl c
    · rw [qif_f c1]; exact c_lineOfPlan1 s hm hN hN4 ha hsk hs0 hL c1
theorem y_lineOfTree {h : qH} {m : Nat} {f : Nat → Int} {g : Nat → Nat → Int} {N L : Nat} (s : pS) (hm : 2 ≤ m) (hN : f 2 = (N : Int)) (hN4 : N ≤ 400) (ha : s.1 ≤ N) (hsk : sk (g 1) N s.1 = s.1) (hs0 : s.2.1 = 0) (hL : L ≤ 16) : ∃ l' y', ((∀ j, j ≠ 10 → y' j = g j) ∧ ((ltS (g 1) N (g 10) L s).2.1 = 0 → l' = (L : Int) + 1 ∧ L < 16) ∧ y' 10 = ltX (g 1) N (g 10) L s) ∧ qEx M_X12_lineOfTree 0 [qR m, qU, qU, qU] [] (rput h m (qup (qup (qup (qup f 20 (L : Int)) 3 ((s.1 : Nat) : Int)) 4 s.2.1) 5 s.2.2) g) none (rput h m (qup (qup (qup (qup f 20 l') 3 (((ltS (g 1) N (g 10) L s).1 : Nat) : Int)) 4 ((ltS (g 1) N (g 10) L s).2.1)) 5 ((ltS (g 1) N (g 10) L s).2.2)) y') := by
  by_cases c : ckP (g 1) N 17 L s.1 = 0
  · obtain ⟨c1, c3⟩ := ckP_0 c
    have e : ltS (g 1) N (g 10) L s = trS (g 1) N (g 10) s := qif_f (fun z => z c)
    rw [e]
    refine ⟨_, _, ⟨fun j hj => gup_ne hj, fun _ => ⟨rfl, by omega⟩, ?_⟩, c_lineOfTree s hm hN hN4 ha hsk hs0 hL ⟨c1, by omega⟩⟩
    rw [gup_eq]; exact (qif_f (fun z => z c)).symm
  · have e : ltS (g 1) N (g 10) L s = (s.1, ckP (g 1) N 17 L s.1, (s.1 : Int)) := qif_t c
    rw [e]
    refine ⟨(L : Int), g, ⟨fun j _ => rfl, fun z => absurd z c, (qif_t c).symm⟩, ?_⟩
    unfold ckP at c ⊢
    by_cases c1 : kd (g 1) N s.1 = 17
    · rw [qif_t c1] at c ⊢
      by_cases c3 : L = 16
      · rw [qif_t c3]; exact c_lineOfTree3 s hm hN hN4 ha hsk hs0 hL ⟨c1, c3⟩
      · rw [qif_f c3] at c; exact absurd rfl c
    · rw [qif_f c1]; exact c_lineOfTree1 s hm hN hN4 ha hsk hs0 hL c1
