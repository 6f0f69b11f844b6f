/-! ===== WORDS: a run in thought on a row or a ring (rg 0: row, 1: ring) ===== -/
noncomputable def stL (n rg : Nat) (F : Nat → Int) (k : Nat) : Int := qif ((k : Int) ≤ 0) (if rg = 0 then 8 else F (n - 1)) (F (k - 1))
noncomputable def stR (n rg : Nat) (F : Nat → Int) (k : Nat) : Int := qif ((k : Int) + 1 ≥ (n : Int)) (if rg = 0 then 8 else F 0) (F (k + 1))
noncomputable def stC (n rg : Nat) (F : Nat → Int) (k : Nat) : Int := 81 * F k + 9 * stL n rg F k + stR n rg F k
noncomputable def stp (T : Nat → Int) (n rg : Nat) (df : Int) (F : Nat → Int) (k : Nat) : Int := qif ((k : Int) ≠ df) (T (stC n rg F k).toNat) (F k)
theorem stL_bd {n rg : Nat} {F : Nat → Int} {k : Nat} (hk : k < n) (hF : ∀ k, k < n → 0 ≤ F k ∧ F k ≤ 7) : 0 ≤ stL n rg F k ∧ stL n rg F k ≤ 8 := by
  have h1 := hF (n - 1) (by omega)
  have h2 := hF (k - 1) (by omega)
  unfold stL
  refine qif_or (fun z => 0 ≤ z ∧ z ≤ (8 : Int)) ?_ (by omega)
  split <;> omega
theorem stR_bd {n rg : Nat} {F : Nat → Int} {k : Nat} (hk : k < n) (hF : ∀ k, k < n → 0 ≤ F k ∧ F k ≤ 7) : 0 ≤ stR n rg F k ∧ stR n rg F k ≤ 8 := by
  unfold stR
  by_cases h : (k : Int) + 1 ≥ (n : Int)
  · rw [qif_t h]
    have h1 := hF 0 (by omega)
    split <;> omega
  · rw [qif_f h]
    have h2 := hF (k + 1) (by omega)
    omega
theorem stC_bd {n rg : Nat} {F : Nat → Int} {k : Nat} (hk : k < n) (hF : ∀ k, k < n → 0 ≤ F k ∧ F k ≤ 7) : 0 ≤ stC n rg F k ∧ stC n rg F k < 648 := by
  have h1 := stL_bd (rg := rg) hk hF
  have h2 := stR_bd (rg := rg) hk hF
  have h3 := hF k hk
  unfold stC
  omega
theorem stp_bd {T : Nat → Int} {n rg : Nat} {df : Int} {F : Nat → Int} {k : Nat} (hk : k < n) (hT : ∀ c, c < 648 → 0 ≤ T c ∧ T c ≤ 7) (hF : ∀ k, k < n → 0 ≤ F k ∧ F k ≤ 7) : 0 ≤ stp T n rg df F k ∧ stp T n rg df F k ≤ 7 := by
  have h := stC_bd (rg := rg) hk hF
  have h1 := hT (stC n rg F k).toNat (by omega)
  have h2 := hF k hk
  unfold stp
  exact qif_or (fun z => 0 ≤ z ∧ z ≤ (7 : Int)) h1 h2
theorem stL_cg {n rg : Nat} {F G : Nat → Int} {k : Nat} (hk : k < n) (h : ∀ k, k < n → F k = G k) : stL n rg F k = stL n rg G k := by
  unfold stL
  rw [h (n - 1) (by omega), h (k - 1) (by omega)]
theorem stR_cg {n rg : Nat} {F G : Nat → Int} {k : Nat} (hk : k < n) (h : ∀ k, k < n → F k = G k) : stR n rg F k = stR n rg G k := by
  unfold stR
  by_cases c : (k : Int) + 1 ≥ (n : Int)
  · rw [qif_t c, qif_t c, h 0 (by omega)]
  · rw [qif_f c, qif_f c, h (k + 1) (by omega)]
theorem stC_cg {n rg : Nat} {F G : Nat → Int} {k : Nat} (hk : k < n) (h : ∀ k, k < n → F k = G k) : stC n rg F k = stC n rg G k := by
  unfold stC
  rw [stL_cg hk h, stR_cg hk h, h k hk]
theorem stp_cg {T S : Nat → Int} {n rg : Nat} {df : Int} {F G : Nat → Int} {k : Nat} (hk : k < n) (hT : ∀ c, c < 648 → T c = S c) (h : ∀ k, k < n → F k = G k) (hF : ∀ k, k < n → 0 ≤ F k ∧ F k ≤ 7) : stp T n rg df F k = stp S n rg df G k := by
  have hb := stC_bd (rg := rg) hk hF
  unfold stp
  rw [hT _ (by omega), stC_cg hk h, h k hk]
/-- the MINDS behind t breaths -/
noncomputable def ps (T : Nat → Int) (n rg : Nat) (df b : Int) : Nat → Nat → Int
  | 0 => fun k => qb ((k : Int) = b)
  | t + 1 => stp T n rg df (ps T n rg df b t)
theorem ps_bd {T : Nat → Int} {n rg : Nat} {df b : Int} (hT : ∀ c, c < 648 → 0 ≤ T c ∧ T c ≤ 7) : ∀ (t : Nat) (k : Nat), k < n → 0 ≤ ps T n rg df b t k ∧ ps T n rg df b t k ≤ 7
  | 0, k, hk => by
    have := qb_bd ((k : Int) = b)
    show 0 ≤ qb _ ∧ qb _ ≤ (7 : Int)
    omega
  | t + 1, k, hk => stp_bd hk hT (ps_bd hT t)
theorem qmx_mx {n c : Nat} (X Y Z : Nat → Int) (h : c ≤ n) : qmx n X (qmx c Y Z) = qmx n X Z := by
  funext j
  unfold qmx
  by_cases h1 : j < n
  · rw [if_pos h1, if_pos h1]
  · rw [if_neg h1, if_neg h1, if_neg (by omega)]
theorem qmx_cg {n : Nat} {X Y Z : Nat → Int} (h : ∀ k, k < n → X k = Y k) : qmx n X Z = qmx n Y Z := by
  funext j
  unfold qmx
  by_cases h1 : j < n
  · rw [if_pos h1, if_pos h1, h j h1]
  · rw [if_neg h1, if_neg h1]
/-- the fire: behind which breath, of the first 3 n + 20, at least one is lit -/
def litAt (T : Nat → Int) (n rg : Nat) (df b : Int) (t : Nat) : Prop := cnt (fun k => ps T n rg df b t k = 7) n > 0
noncomputable def rnF (T : Nat → Int) (n rg : Nat) (b : Int) : Int := fst (fun t => litAt T n rg (-1) b (t + 1)) (3 * n + 20)
noncomputable def rnN (T : Nat → Int) (n rg : Nat) (b : Int) : Nat := if rnF T n rg b = -1 then 3 * n + 20 else (rnF T n rg b).toNat + 1
noncomputable def rnT (T : Nat → Int) (n rg : Nat) (b : Int) : Int := qif (rnF T n rg b = -1) (-1) (rnF T n rg b + 1)
/-- the MINDS at a run's end -/
noncomputable def rnE (T : Nat → Int) (n rg : Nat) (b : Int) : Nat → Int := ps T n rg (-1) b (rnN T n rg b)
section RunEnds
variable {T : Nat → Int} {n rg : Nat} {b : Int} {i : Nat}
theorem rn_f (hii : i < 3 * n + 20) (hp : ∀ k, k < i → ¬ litAt T n rg (-1) b (k + 1)) (hl : litAt T n rg (-1) b (i + 1)) : rnF T n rg b = (i : Int) := fst_at hii hp hl
theorem rn_t (hii : i < 3 * n + 20) (hp : ∀ k, k < i → ¬ litAt T n rg (-1) b (k + 1)) (hl : litAt T n rg (-1) b (i + 1)) : rnT T n rg b = (i : Int) + 1 := by
  unfold rnT
  rw [rn_f hii hp hl, qif_f (by omega)]
theorem rn_n (hii : i < 3 * n + 20) (hp : ∀ k, k < i → ¬ litAt T n rg (-1) b (k + 1)) (hl : litAt T n rg (-1) b (i + 1)) : rnN T n rg b = i + 1 := by
  unfold rnN
  rw [rn_f hii hp hl, if_neg (by omega), Int.toNat_natCast]
theorem rn_h {h : qH} {m : Nat} {f : Nat → Int} {g : Nat → Nat → Int} (hii : i < 3 * n + 20) (hp : ∀ k, k < i → ¬ litAt T n rg (-1) b (k + 1)) (hl : litAt T n rg (-1) b (i + 1)) : rput h m f (gup (gup g 28 (qmx n (rnE T n rg b) (g 28))) 29 (qmx n (rnE T n rg b) (g 29))) = rput h m f (gup (gup g 28 (qmx n (ps T n rg (-1) b (i + 1)) (g 28))) 29 (qmx (if (i + 1) = 0 then 0 else n) (ps T n rg (-1) b (i + 1)) (g 29))) := by
  unfold rnE
  rw [rn_n hii hp hl, if_neg (by omega)]
theorem rn_fn (hp : ∀ k, k < 3 * n + 20 → ¬ litAt T n rg (-1) b (k + 1)) : rnF T n rg b = -1 := fst_none hp
theorem rn_tn (hp : ∀ k, k < 3 * n + 20 → ¬ litAt T n rg (-1) b (k + 1)) : rnT T n rg b = -1 := by
  unfold rnT
  rw [rn_fn hp, qif_t rfl]
theorem rn_hn {h : qH} {m : Nat} {f : Nat → Int} {g : Nat → Nat → Int} (hp : ∀ k, k < 3 * n + 20 → ¬ litAt T n rg (-1) b (k + 1)) : rput h m f (gup (gup g 28 (qmx n (rnE T n rg b) (g 28))) 29 (qmx n (rnE T n rg b) (g 29))) = rput h m f (gup (gup g 28 (qmx n (ps T n rg (-1) b (3 * n + 20)) (g 28))) 29 (qmx (if (3 * n + 20) = 0 then 0 else n) (ps T n rg (-1) b (3 * n + 20)) (g 29))) := by
  unfold rnE rnN
  rw [rn_fn hp, if_pos rfl, if_neg (show ¬ 3 * n + 20 = 0 by omega)]
end RunEnds
/-- a RUN is GOOD; the first length to 'to' whose RUN is not, or -1; how many RUNS that took -/
def goodR (T : Nat → Int) (n : Nat) : Prop := rnT T n 0 0 ≠ -1 ∧ cnt (fun k => rnE T n 0 0 k = 7) n = n
noncomputable def fbF (T : Nat → Int) (to : Nat) : Int := fst (fun k => ¬ goodR T (k + 1)) to
noncomputable def fbR (T : Nat → Int) (to : Nat) : Int := qif (fbF T to = -1) (-1) (fbF T to + 1)
noncomputable def fbN (T : Nat → Int) (to : Nat) : Nat := if fbF T to = -1 then to else (fbF T to).toNat + 1
theorem fb_f {T : Nat → Int} {to i : Nat} (hi : i < to) (hp : ∀ k, k < i → goodR T (k + 1)) (hb : ¬ goodR T (i + 1)) : fbF T to = (i : Int) := fst_at hi (fun k hk => Classical.not_not.mpr (hp k hk)) hb
theorem fb_n {T : Nat → Int} {to : Nat} (hp : ∀ k, k < to → goodR T (k + 1)) : fbF T to = -1 := fst_none (fun k hk => Classical.not_not.mpr (hp k hk))
/-- what runs leave in the two scratch rows -/
noncomputable def scr (g : Nat → Nat → Int) (n : Nat) (E : Nat → Int) : Nat → Nat → Int := gup (gup g 28 (qmx n E (g 28))) 29 (qmx n E (g 29))
theorem scr_ne {g : Nat → Nat → Int} {n : Nat} {E : Nat → Int} {k : Nat} (h1 : k ≠ 28) (h2 : k ≠ 29) : scr g n E k = g k := by
  unfold scr
  rw [gup_ne h2, gup_ne h1]
theorem scr_scr {g : Nat → Nat → Int} {n c : Nat} {E D : Nat → Int} (h : c ≤ n) : scr (scr g c D) n E = scr g n E := by
  unfold scr
  rw [gup_eq, gup_ne (by decide), gup_eq, qmx_mx _ _ _ h, qmx_mx _ _ _ h]
  funext j
  unfold gup
  by_cases h1 : j = 29
  · simp only [if_pos h1]
  · simp only [if_neg h1]
    by_cases h2 : j = 28
    · simp only [if_pos h2]
    · simp only [if_neg h2]
theorem scr_0 {g : Nat → Nat → Int} {E : Nat → Int} : scr g 0 E = g := by
  unfold scr
  rw [qmx_0, qmx_0, gup_self rfl, gup_self rfl]
