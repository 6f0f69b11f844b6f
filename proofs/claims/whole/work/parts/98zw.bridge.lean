/-! ===== the component's words are the reference's ===== -/
section PatBits
variable {B : Nat → Int} {N : Nat} {s : pS}
theorem one_b (ha : s.1 ≤ N) (h : s.2.1 = 0) (h1 : (oneS B N s).2.1 = 0) : ∃ v : Int, (0 ≤ v ∧ v ≤ 8) ∧ oneV B N s = qShl 1 v := by
  have hk : poK B N 8 (sk B N s.1) := Classical.byContradiction (fun z => by rw [one_no ha h z] at h1; exact nER_0 h1)
  exact ⟨_, poV_bd ⟨by decide, by decide⟩ hk (sk_sp B ha).2.1, (one_ok ha h hk).2⟩
theorem shl_b {v : Int} (hv : 0 ≤ v ∧ v ≤ 8) : 0 ≤ qShl 1 v ∧ qShl 1 v ≤ 511 := by
  have h := se_or (b := 0) (v := v) ⟨by decide, by decide⟩ hv
  rw [qOr_0 (qShl_R _ _)] at h
  exact h
theorem seL_b : ∀ (n : Nat) {x : pS × Int}, x.1.1 ≤ N → (x.1.2.1 = 0 → 0 ≤ x.2 ∧ x.2 ≤ 511) → (seL B N n x).1.2.1 = 0 → 0 ≤ (seL B N n x).2 ∧ (seL B N n x).2 ≤ 511
  | 0, _, _, h, h0 => h h0
  | n + 1, x, ha, h, h0 => by
    have e : seL B N (n + 1) x = qif (x.1.2.1 = 0 ∧ bAt B N x.1.1 = 44) (seL B N n (skS B N (oneS B N (x.1.1 + 1, x.1.2)), qOr x.2 (oneV B N (x.1.1 + 1, x.1.2)))) x := rfl
    rw [e] at h0 ⊢
    by_cases c : x.1.2.1 = 0 ∧ bAt B N x.1.1 = 44
    · rw [qif_t c] at h0 ⊢
      have hl : x.1.1 + 1 ≤ N := (kd_en3 (Or.inr (Or.inl rfl)) c.2).1
      refine seL_b n (skS_le (oneS_le hl)) (fun z => ?_) h0
      obtain ⟨v, hv, ev⟩ := one_b (B := B) (s := (x.1.1 + 1, x.1.2)) hl c.1 z
      show 0 ≤ qOr x.2 (oneV B N (x.1.1 + 1, x.1.2)) ∧ qOr x.2 (oneV B N (x.1.1 + 1, x.1.2)) ≤ 511
      rw [ev]
      exact se_or (h c.1) hv
    · rw [qif_f c] at h0 ⊢
      exact h h0
theorem seV_bd (ha : s.1 ≤ N) (h : (seS B N s).2.1 = 0) : 0 ≤ seV B N s ∧ seV B N s ≤ 511 := by
  have hs : s.2.1 = 0 := Classical.byContradiction (fun z => by rw [seS_f z] at h; exact z h)
  unfold seV
  rw [qif_f (fun z => z hs)]
  by_cases q6 : tkQ B N 6 s
  · rw [qif_t q6]; exact ⟨by decide, by decide⟩
  · have hx : (seX B N s).1.2.1 = 0 := by unfold seS at h; rw [qif_f (fun z => z hs), qif_f q6] at h; exact h
    have hl : (tkS B N 7 (tkS B N 6 s)).1 ≤ N := tkS_le (by decide) (tkS_le (by decide) ha)
    have h2 : (tkS B N 7 (tkS B N 6 s)).2.1 = 0 := by rw [tk_2, tk_2]; exact hs
    have hb : 0 ≤ (seX B N s).2 ∧ (seX B N s).2 ≤ 511 := by
      unfold seX at hx ⊢
      refine seL_b N (skS_le (oneS_le hl)) (fun z => ?_) hx
      obtain ⟨v, hv, ev⟩ := one_b (B := B) hl h2 z
      show 0 ≤ oneV B N _ ∧ oneV B N _ ≤ 511
      rw [ev]
      exact shl_b hv
    rw [qif_f q6]
    by_cases q7 : tkQ B N 7 (tkS B N 6 s)
    · rw [qif_t q7]; exact se_not hb
    · rw [qif_f q7]; exact hb
end PatBits
theorem enF_bd {g : Nat → Nat → Int} {to : Nat} : ∀ s : Nat, -1 ≤ enF g to s ∧ enF g to s < (if s = 0 then 0 else s)
  | 0 => by show -1 ≤ (-1 : Int) ∧ (-1 : Int) < _; simp
  | s + 1 => by
    have h := enF_bd (g := g) (to := to) s
    have h2 : enF g to s < s + 1 := by split at h <;> omega
    rw [if_neg (show ¬ s + 1 = 0 by omega)]
    show -1 ≤ qif _ _ _ ∧ qif _ _ _ < ((s + 1 : Nat) : Int)
    exact qif_or (fun z => -1 ≤ z ∧ z < ((s + 1 : Nat) : Int)) (by omega) (qif_or (fun z => -1 ≤ z ∧ z < ((s + 1 : Nat) : Int)) (by omega) (by omega))
theorem en_eq {g : Nat → Nat → Int} {to : Nat} (hC : ∀ k, k < 4 → 0 ≤ g 5 k) : ∀ s : Nat, s ≤ 16 → enC (g 2) (g 5) to s = enF g to s
  | 0, _ => rfl
  | s + 1, hs => by
    have ih := en_eq (to := to) hC s (by omega)
    have hb := enF_bd (g := g) (to := to) s
    have hb2 : enF g to s < 16 := by split at hb <;> omega
    have eT : bkTc (g 2) (pgC (g 5) (s : Int)) 15 (-1) (-1) 0 = pgT g (s : Int) := funext (fun c => pages_T hC)
    show qif (enC (g 2) (g 5) to s = -1 ∨ bcn (s : Int) < bcn (enC (g 2) (g 5) to s)) (qif (fbR (bkTc (g 2) (pgC (g 5) (s : Int)) 15 (-1) (-1) 0) to = -1) (s : Int) (enC (g 2) (g 5) to s)) (enC (g 2) (g 5) to s) = qif (enF g to s ≠ -1 ∧ on12 (s : Int) ≥ on12 (enF g to s)) (enF g to s) (qif (fbR (pgT g (s : Int)) to ≠ -1) (enF g to s) (s : Int))
    rw [ih, eT]
    have e1 : bcn (s : Int) = on12 (s : Int) := bc12 (by omega) (by omega)
    have hw : qif (fbR (pgT g (s : Int)) to = -1) (s : Int) (enF g to s) = qif (fbR (pgT g (s : Int)) to ≠ -1) (enF g to s) (s : Int) := by
      by_cases w : fbR (pgT g (s : Int)) to = -1
      · rw [qif_t w, qif_f (show ¬ (fbR (pgT g (s : Int)) to ≠ -1) from fun y => y w)]
      · rw [qif_f w, qif_t (show fbR (pgT g (s : Int)) to ≠ -1 from w)]
    rw [hw]
    by_cases z : enF g to s = -1
    · rw [qif_t (show enF g to s = -1 ∨ bcn (s : Int) < bcn (enF g to s) from Or.inl z), qif_f (show ¬ (enF g to s ≠ -1 ∧ on12 (s : Int) ≥ on12 (enF g to s)) from fun y => y.1 z)]
    · have e2 : bcn (enF g to s) = on12 (enF g to s) := bc12 (by omega) (by omega)
      rw [e1, e2]
      by_cases y : on12 (s : Int) < on12 (enF g to s)
      · rw [qif_t (show enF g to s = -1 ∨ on12 (s : Int) < on12 (enF g to s) from Or.inr y), qif_f (show ¬ (enF g to s ≠ -1 ∧ on12 (s : Int) ≥ on12 (enF g to s)) from fun q => by have := q.2; omega)]
      · rw [qif_f (show ¬ (enF g to s = -1 ∨ on12 (s : Int) < on12 (enF g to s)) from fun q => q.elim z y), qif_t (show enF g to s ≠ -1 ∧ on12 (s : Int) ≥ on12 (enF g to s) from ⟨z, by omega⟩)]
theorem tb_hi {x : Int} (h : 0 ≤ x ∧ x ≤ 511) {k : Nat} (h9 : 9 ≤ k) (hk : k < 32) : tb x k = false := by
  rw [tb_nat h.1 k hk]
  exact Nat.testBit_lt_two_pow (Nat.lt_of_lt_of_le (show x.toNat < 2 ^ 9 by omega) (Nat.pow_le_pow_right (by decide) h9))
theorem and_ne {x y : Int} (hx : 0 ≤ x ∧ x ≤ 511) : qAnd x y ≠ 0 ↔ ∃ s, s < 9 ∧ tb x s = true ∧ tb y s = true := by
  constructor
  · intro h
    refine Classical.byContradiction (fun z => h ?_)
    refine tb_ext (qAnd_R _ _) ⟨by decide, by decide⟩ (fun k hk => ?_)
    rw [tb_and, tb_0]
    by_cases k9 : k < 9
    · cases e1 : tb x k with
      | false => rfl
      | true =>
        cases e2 : tb y k with
        | false => rfl
        | true => exact absurd ⟨k, k9, e1, e2⟩ z
    · rw [tb_hi hx (by omega) hk]; rfl
  · rintro ⟨s, hs, e1, e2⟩ z
    have := tb_and x y s
    rw [z, tb_0, e1, e2] at this
    cases this
theorem gc_cl {R C : Nat → Int} (hB : bkB R C) {i k : Nat} (hi : i < 96) (hk : k < 96) (ri : rlP C i) (rk : rlP C k) : gcP R i k ↔ clP R i k := by
  have ei : ∀ m, 96 * (i / 24) + (4 * (i % 24) + m) = 4 * i + m := fun m => by omega
  have ek : ∀ m, 96 * (k / 24) + (4 * (k % 24) + m) = 4 * k + m := fun m => by omega
  have ei0 : 96 * (i / 24) + 4 * (i % 24) = 4 * i := by omega
  have ek0 : 96 * (k / 24) + 4 * (k % 24) = 4 * k := by omega
  unfold gcP pcP clP pcO clO sbR
  simp only [ei, ek, ei0, ek0]
  rw [and_ne (hB i hi ri 1 (by decide)), and_ne (hB i hi ri 2 (by decide))]
  simp only [tb_and, Bool.and_eq_true]
  exact ⟨fun ⟨a, b, c⟩ => ⟨⟨a, b⟩, c⟩, fun ⟨⟨a, b⟩, c⟩ => ⟨a, b, c⟩⟩
theorem gc_eq {R C : Nat → Int} (hB : bkB R C) : ∀ i, i ≤ 96 → gcS R C i = clS R C i
  | 0, _ => rfl
  | i + 1, hi => by
    show gcS R C i + qif (rlP C i) (cnt (gcQ R C i) 96) 0 = clS R C i + cnt (clQ R C i) 96
    rw [gc_eq hB i (by omega)]
    by_cases z : rlP C i
    · rw [qif_t z, cnt_congr (q := clQ R C i) (fun k hk => ⟨fun ⟨a, b, c⟩ => ⟨a, z, b, (gc_cl hB (by omega) hk z b).mp c⟩, fun ⟨a, _, b, c⟩ => ⟨a, b, (gc_cl hB (by omega) hk z b).mpr c⟩⟩)]
    · rw [qif_f z, cnt_0.mpr (fun k _ q => z q.2.1)]
theorem dc_eq {D : Nat → Int} (hD : ∀ c, 567 ≤ c → c < 648 → D c = -1) {q : Nat} : dcP (fun _ => 1) D (q : Int) ↔ dcR D 648 q := by
  constructor
  · rintro ⟨c, hc, _, e⟩
    exact Or.inr (Or.inr ⟨c, by omega, e⟩)
  · rintro (z | ⟨t, ht, _⟩ | ⟨c, hc, e⟩)
    · exact absurd z id
    · exact absurd ht (by omega)
    · refine ⟨c, ?_, (show (1 : Int) ≠ 0 by decide), e⟩
      rcases Nat.lt_or_ge c 567 with y | y
      · exact y
      · have e2 : D c = (q : Int) := e
        rw [hD c y hc] at e2
        omega
theorem cnt_split {p q : Nat → Prop} : ∀ n, cnt (fun k => p k ∧ q k) n + cnt (fun k => p k ∧ ¬ q k) n = cnt p n
  | 0 => rfl
  | n + 1 => by
    have ih := cnt_split (p := p) (q := q) n
    by_cases a : p n
    · by_cases b : q n
      · rw [cnt_t ⟨a, b⟩, cnt_f (fun z => z.2 b), cnt_t a]; omega
      · rw [cnt_f (fun z => b z.2), cnt_t ⟨a, b⟩, cnt_t a]; omega
    · rw [cnt_f (fun z => a z.1), cnt_f (fun z => a z.1), cnt_f a]; exact ih
theorem cnt_lt {c : Int} (h0 : 0 ≤ c) : ∀ n : Nat, c ≤ n → cnt (fun i => ((i : Nat) : Int) < c) n = c
  | 0, h => by show (0 : Int) = c; omega
  | n + 1, h => by
    by_cases z : (n : Int) < c
    · rw [cnt_t z, cnt_all.mpr (fun k hk => by omega)]; omega
    · rw [cnt_f z]; exact cnt_lt h0 n (by omega)
theorem rl_sm {C : Nat → Int} (hC : ∀ k, k < 4 → 0 ≤ C k ∧ C k ≤ 24) : cnt (rlP C) 96 = sm C 4 := by
  have e1 := cnt_add (rlP C) 24 72
  have e2 := cnt_add (fun k => rlP C (24 + k)) 24 48
  have e3 := cnt_add (fun k => rlP C (24 + (24 + k))) 24 24
  have key : ∀ (p : Nat), p < 4 → ∀ (f : Nat → Prop), (∀ k, k < 24 → (f k ↔ (k : Int) < C p)) → cnt f 24 = C p := fun p hp f hf => by
    rw [cnt_congr (q := fun k => (k : Int) < C p) hf]
    exact cnt_lt (hC p hp).1 24 (hC p hp).2
  have r : ∀ p k : Nat, k < 24 → (rlP C (24 * p + k) ↔ (k : Int) < C p) := fun p k hk => by
    unfold rlP
    rw [show (24 * p + k) % 24 = k by omega, show (24 * p + k) / 24 = p by omega]
  have k0 := key 0 (by decide) (rlP C) (fun k hk => by have := r 0 k hk; rw [show 24 * 0 + k = k by omega] at this; exact this)
  have k1 := key 1 (by decide) (fun k => rlP C (24 + k)) (fun k hk => r 1 k hk)
  have k2 := key 2 (by decide) (fun k => rlP C (24 + (24 + k))) (fun k hk => by have := r 2 k hk; rw [show 24 * 2 + k = 24 + (24 + k) by omega] at this; exact this)
  have k3 := key 3 (by decide) (fun k => rlP C (24 + (24 + (24 + k)))) (fun k hk => by have := r 3 k hk; rw [show 24 * 3 + k = 24 + (24 + (24 + k)) by omega] at this; exact this)
  show cnt (rlP C) (24 + 72) = ((0 + C 0) + C 1) + C 2 + C 3
  rw [e1]
  have e2' : cnt (fun k => rlP C (24 + k)) 72 = cnt (fun k => rlP C (24 + k)) 24 + cnt (fun k => rlP C (24 + (24 + k))) 48 := e2
  have e3' : cnt (fun k => rlP C (24 + (24 + k))) 48 = cnt (fun k => rlP C (24 + (24 + k))) 24 + cnt (fun k => rlP C (24 + (24 + (24 + k)))) 24 := e3
  rw [e2', e3', k0, k1, k2, k3]
  omega
theorem us_iff {T By : Nat → Int} (hB : ∀ c, c < 648 → 0 ≤ T c ∧ T c ≤ 7) {q : Nat} : ∀ n, (usD T By n q ↔ ∃ c, c < 648 ∧ usA T n c ∧ By c = (q : Int))
  | 0 => ⟨fun z => absurd z id, fun ⟨_, _, z, _⟩ => absurd z id⟩
  | n + 1 => by
    have ih := us_iff (By := By) hB (q := q) n
    have hst : ∀ t k, k < n + 1 → 0 ≤ stC (n + 1) 0 (ps T (n + 1) 0 (-1) 0 t) k ∧ stC (n + 1) 0 (ps T (n + 1) 0 (-1) 0 t) k < 648 := fun t k hk => stC_bd hk (ps_bd hB t)
    constructor
    · rintro (z | ⟨t, ht, k, hk, e⟩ | ⟨k, hk, _⟩)
      · obtain ⟨c, h1, h2, h3⟩ := ih.mp z
        exact ⟨c, h1, Or.inl h2, h3⟩
      · have b := hst t k hk
        exact ⟨(stC (n + 1) 0 (ps T (n + 1) 0 (-1) 0 t) k).toNat, by omega, Or.inr (Or.inl ⟨t, ht, k, hk, by show stC _ _ _ _ = _; omega⟩), e⟩
      · exact absurd hk (by omega)
    · rintro ⟨c, h1, z | ⟨t, ht, k, hk, e⟩ | ⟨k, hk, _⟩, h3⟩
      · exact Or.inl (ih.mpr ⟨c, h1, z, h3⟩)
      · refine Or.inr (Or.inl ⟨t, ht, k, hk, ?_⟩)
        show By (stC (n + 1) 0 (ps T (n + 1) 0 (-1) 0 t) k).toNat = (q : Int)
        have e2 : stC (n + 1) 0 (ps T (n + 1) 0 (-1) 0 t) k = (c : Int) := e
        rw [e2, Int.toNat_natCast]; exact h3
      · exact absurd hk (by omega)
theorem ownF_rl {R C : Nat → Int} {c q : Nat} (h : bkFc R C 15 (-1) c = (q : Int)) : rlP C q ∧ c < 567 ∨ 648 ≤ c := by
  rcases Nat.lt_or_ge c 648 with h8 | h8
  · refine Or.inl ?_
    have hc : c < 567 := by
      rcases Nat.lt_or_ge c 567 with y | y
      · exact y
      · rw [(bk_hi y h8).1] at h; omega
    refine ⟨?_, hc⟩
    unfold bkFc bkF at h
    rw [qif_f (by omega)] at h
    rcases fst_cases (bkP R C 15 (-1) (c / 81) (c / 9 % 9) (c % 9)) 96 with ⟨z, _⟩ | ⟨i, hi, e, hp, _⟩
    · rw [z] at h; omega
    · rw [e] at h
      rw [show q = i by omega]
      exact hp.1.2.1
  · exact Or.inr h8
theorem us_rl {R C T : Nat → Int} (hB : ∀ c, c < 648 → 0 ≤ T c ∧ T c ≤ 7) {n q : Nat} : (rlP C q ∧ dcP (fun c => qb (usA T n c)) (bkFc R C 15 (-1)) (q : Int)) ↔ usD T (bkFc R C 15 (-1)) n q := by
  rw [us_iff hB]
  constructor
  · rintro ⟨_, c, hc, ha, e⟩
    exact ⟨c, by omega, Classical.byContradiction (fun z => ha (qb_f z)), e⟩
  · rintro ⟨c, hc, ha, e⟩
    rcases ownF_rl e with ⟨h1, h2⟩ | h2
    · exact ⟨h1, c, h2, by show qb (usA T n c) ≠ 0; rw [qb_t ha]; decide, e⟩
    · omega
theorem us_nrl {R C T : Nat → Int} (hB : ∀ c, c < 648 → 0 ≤ T c ∧ T c ≤ 7) {n q : Nat} : (rlP C q ∧ ¬ dcP (fun c => qb (usA T n c)) (bkFc R C 15 (-1)) (q : Int)) ↔ rlP C q ∧ ¬ usD T (bkFc R C 15 (-1)) n q := by
  rw [← us_rl hB]
  exact ⟨fun ⟨a, b⟩ => ⟨a, fun z => b z.2⟩, fun ⟨a, b⟩ => ⟨a, fun z => b ⟨a, z⟩⟩⟩
theorem tb_pg {p q : Nat} (hp : p < 4) (hq : q < 4) : tb (qShl 1 (p : Int)) q = decide (q = p) := tb_bit (by omega) q
theorem pgA_T {R C : Nat → Int} {p o l r : Nat} (hp : p < 4) (ho : o < 7) : pgA (fun j => R (96 * p + j)) (C p) o l r = bkT R C (qShl 1 (p : Int)) (-1) (-1) 0 o l r := by
  have hP : ∀ i, i < 96 → (bkP R C (qShl 1 (p : Int)) (-1) o l r i ↔ i / 24 = p ∧ ((i % 24 : Nat) : Int) < C p ∧ bkFt R i o l r) := fun i hi => by
    unfold bkP bkA
    rw [tb_pg hp (show i / 24 < 4 by omega)]
    constructor
    · rintro ⟨⟨a, b, _⟩, d⟩
      have a2 : i / 24 = p := of_decide_eq_true a
      rw [a2] at b
      exact ⟨a2, b, d⟩
    · rintro ⟨a, b, d⟩
      exact ⟨⟨decide_eq_true a, by rw [a]; exact b, by omega⟩, d⟩
  unfold pgA
  by_cases z : pgF (fun j => R (96 * p + j)) (C p) o l r = -1
  · have e : bkF R C (qShl 1 (p : Int)) (-1) o l r = -1 := by
      unfold bkF
      rw [qif_f (by omega)]
      refine fst_none (fun i hi y => ?_)
      obtain ⟨a, b, d⟩ := (hP i hi).mp y
      have := pg_no z (show i % 24 < 24 by omega)
      exact this ⟨b, (pgF_R (C := C)).mpr (by rw [show 24 * p + i % 24 = i by omega]; exact d)⟩
    rw [qif_f (fun y => y z)]
    have eM : bkM R C (qShl 1 (p : Int)) (-1) (-1) 0 o l r = 8 := by unfold bkM; rw [e, qif_f (fun y => y rfl)]
    unfold bkT
    rw [eM, qif_f (fun y => y rfl)]
  · obtain ⟨i, hi, ei, hic⟩ := pgF_cases z
    have hat := pg_at ei
    have e : bkF R C (qShl 1 (p : Int)) (-1) o l r = ((24 * p + i : Nat) : Int) := by
      unfold bkF
      rw [qif_f (by omega)]
      refine fst_at (by omega) (fun k hk y => ?_) ?_
      · obtain ⟨a, b, d⟩ := (hP k (by omega)).mp y
        refine hat.2.2 (k % 24) (by omega) ⟨b, ?_⟩
        exact (pgF_R (C := C)).mpr (by rw [show 24 * p + k % 24 = k by omega]; exact d)
      · refine (hP _ (by omega)).mpr ⟨by omega, by rw [show (24 * p + i) % 24 = i by omega]; exact hat.2.1.1, ?_⟩
        exact (pgF_R (C := C)).mp hat.2.1.2
    rw [qif_t z, ei, Int.toNat_natCast]
    have eM : bkM R C (qShl 1 (p : Int)) (-1) (-1) 0 o l r = R (4 * (24 * p + i) + 3) := by
      unfold bkM
      rw [e, qif_t (show ((24 * p + i : Nat) : Int) ≠ -1 by omega), qif_t (show ((24 * p + i : Nat) : Int) ≠ -1 by omega), Int.toNat_natCast]
    unfold bkT sbR
    rw [eM]
    show qif (R (96 * p + (4 * i + 3)) ≠ 8) (R (96 * p + (4 * i + 3))) (o : Int) = _
    rw [show 4 * (24 * p + i) + 3 = 96 * p + (4 * i + 3) by omega]
theorem up_ul {g : Nat → Nat → Int} {p q : Nat} (hp : p < 4) (hq : q < 4) {c : Nat} (hc : c < 567) : upP (g 2) (g 5) p q c ↔ ulP g (p : Int) (q : Int) c := by
  unfold upP ulP pgT bkTc
  rw [pgA_T hp (by omega), pgA_T hq (by omega)]
