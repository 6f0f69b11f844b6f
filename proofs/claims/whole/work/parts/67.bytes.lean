/-! ===== WORDS: bytes and tokens ===== -/
noncomputable def bAt (B : Nat → Int) (N k : Nat) : Int := qif ((k : Int) < (N : Int)) (B k) (-1)
def isB (c : Int) : Prop := c = 32 ∨ c = 10
def isL (c : Int) : Prop := (97 ≤ c ∧ c ≤ 122) ∨ (65 ≤ c ∧ c ≤ 90)
def isD (c : Int) : Prop := 48 ≤ c ∧ c ≤ 57
theorem bAt_lt {B : Nat → Int} {N k : Nat} (h : k < N) : bAt B N k = B k := qif_t (by omega)
theorem bAt_ge {B : Nat → Int} {N k : Nat} (h : N ≤ k) : bAt B N k = -1 := qif_f (by omega)
theorem nB : ¬ isB (-1) := by unfold isB; omega
theorem nL : ¬ isL (-1) := by unfold isL; omega
theorem nD : ¬ isD (-1) := by unfold isD; omega
theorem bAt_in {B : Nat → Int} {N k : Nat} {Q : Int → Prop} (hQ : ¬ Q (-1)) (h : Q (bAt B N k)) : k < N := by
  rcases Nat.lt_or_ge k N with q | q
  · exact q
  · rw [bAt_ge q] at h; exact absurd h hQ
/-- how many from k on are such -/
noncomputable def rl (Q : Int → Prop) (B : Nat → Int) (N k : Nat) : Nat := utl (fun n => ¬ Q (bAt B N (k + n))) (N - k)
theorem rl_at {Q : Int → Prop} {B : Nat → Int} {N k n : Nat} (hn : k + n ≤ N) (h1 : ∀ j, j < n → Q (bAt B N (k + j))) (h2 : ¬ Q (bAt B N (k + n))) : rl Q B N k = n := utl_at (by omega) (fun j hj z => z (h1 j hj)) h2
theorem rl_sp {Q : Int → Prop} (B : Nat → Int) {N k : Nat} (hQ : ¬ Q (-1)) (hk : k ≤ N) : k + rl Q B N k ≤ N ∧ (∀ j, j < rl Q B N k → Q (bAt B N (k + j))) ∧ ¬ Q (bAt B N (k + rl Q B N k)) := by
  unfold rl utl
  rcases fst_cases (fun n => ¬ Q (bAt B N (k + n))) (N - k + 1) with ⟨-, h⟩ | ⟨i, hi, e, h1, h2⟩
  · have := h (N - k) (by omega)
    rw [show k + (N - k) = N by omega, bAt_ge (Nat.le_refl _)] at this
    exact absurd hQ this
  · rw [e, Int.toNat_natCast]
    exact ⟨by omega, fun j hj => Classical.not_not.mp (h2 j hj), h1⟩
theorem rl_0 {Q : Int → Prop} {B : Nat → Int} {N k : Nat} (hk : k ≤ N) (h : ¬ Q (bAt B N k)) : rl Q B N k = 0 := rl_at (by omega) (fun j hj => absurd hj (by omega)) h
theorem rl_pos {Q : Int → Prop} {B : Nat → Int} {N k : Nat} (hQ : ¬ Q (-1)) (hk : k ≤ N) (h : Q (bAt B N k)) : 1 ≤ rl Q B N k := by
  have := (rl_sp (Q := Q) B hQ hk).2.2
  rcases Nat.eq_zero_or_pos (rl Q B N k) with e | e
  · rw [e] at this; exact absurd h this
  · exact e
noncomputable def sk (B : Nat → Int) (N k : Nat) : Nat := k + rl isB B N k
theorem sk_sp (B : Nat → Int) {N k : Nat} (hk : k ≤ N) : k ≤ sk B N k ∧ sk B N k ≤ N ∧ ¬ isB (bAt B N (sk B N k)) := by
  have h := rl_sp (Q := isB) B nB hk
  exact ⟨Nat.le_add_right _ _, h.1, h.2.2⟩
theorem sk_id {B : Nat → Int} {N k : Nat} (hk : k ≤ N) (h : ¬ isB (bAt B N k)) : sk B N k = k := by
  unfold sk
  rw [rl_0 hk h, Nat.add_zero]
theorem sk_sk {B : Nat → Int} {N k : Nat} (hk : k ≤ N) : sk B N (sk B N k) = sk B N k := sk_id (sk_sp B hk).2.1 (sk_sp B hk).2.2
noncomputable def en (B : Nat → Int) (N p : Nat) : Nat := qif (isL (bAt B N p)) (p + rl isL B N p) (qif (isD (bAt B N p)) (p + rl isD B N p) (p + 1))
theorem en_sp {B : Nat → Int} {N p : Nat} (hp : p < N) : p < en B N p ∧ en B N p ≤ N := by
  unfold en
  by_cases h : isL (bAt B N p)
  · rw [qif_t h]
    have h1 := rl_sp (Q := isL) B nL (show p ≤ N by omega)
    have h2 := rl_pos nL (show p ≤ N by omega) h
    omega
  · rw [qif_f h]
    by_cases h : isD (bAt B N p)
    · rw [qif_t h]
      have h1 := rl_sp (Q := isD) B nD (show p ≤ N by omega)
      have h2 := rl_pos nD (show p ≤ N by omega) h
      omega
    · rw [qif_f h]; omega
noncomputable def nx (B : Nat → Int) (N p : Nat) : Nat := sk B N (en B N p)
theorem nx_sp {B : Nat → Int} {N p : Nat} (hp : p < N) : p < nx B N p ∧ nx B N p ≤ N := by
  have h := en_sp (B := B) hp
  have h2 := sk_sp B h.2
  unfold nx
  omega
def vlF (B : Nat → Int) (p : Nat) : Nat → Int
  | 0 => 0
  | i + 1 => 10 * vlF B p i + B (p + i) - 48
noncomputable def vl (B : Nat → Int) (N p : Nat) : Int := vlF B p (rl isD B N p)
theorem vlF_bd {B : Nat → Int} {p : Nat} : ∀ i, (∀ j, j < i → isD (B (p + j))) → 0 ≤ vlF B p i ∧ vlF B p i < ((10 ^ i : Nat) : Int)
  | 0, _ => by show 0 ≤ (0 : Int) ∧ (0 : Int) < ((10 ^ 0 : Nat) : Int); decide
  | i + 1, h => by
    have h1 := vlF_bd i (fun j hj => h j (by omega))
    have h2 := h i (by omega)
    unfold isD at h2
    show 0 ≤ 10 * vlF B p i + B (p + i) - 48 ∧ 10 * vlF B p i + B (p + i) - 48 < ((10 ^ (i + 1) : Nat) : Int)
    rw [Nat.pow_succ]
    omega
theorem vlF_bd4 {B : Nat → Int} {p i : Nat} (hi : i ≤ 4) (h : ∀ j, j < i → isD (B (p + j))) : 0 ≤ vlF B p i ∧ vlF B p i ≤ 9999 := by
  have h1 := vlF_bd i h
  have h2 : 10 ^ i ≤ 10000 := Nat.pow_le_pow_right (n := 10) (by decide) hi
  omega
/-- the keywords -/
def wds : List (List Int) := [[97, 110, 121],
  [110, 111, 116],
  [101, 110, 100],
  [115, 97, 109, 101],
  [97, 116],
  [116, 101, 108, 108],
  [100, 101, 97, 102],
  [119, 97, 107, 101],
  [108, 97, 116, 101],
  [115, 111, 111, 110],
  [103, 97, 116, 101],
  [107, 101, 101, 112, 101, 114],
  [98, 101, 108, 111, 119]]
def wdc (w i : Nat) : Int := (wds.getD w []).getD i 32
def wl (w : Nat) : Nat := (wds.getD w []).length
theorem wd_lt : ∀ w : Fin 13, ∀ i : Fin 7, if i.1 < wl w then 97 ≤ wdc w i ∧ wdc w i ≤ 122 else wdc w i = 32 := by decide +kernel
theorem wl_bd : ∀ w : Fin 13, 2 ≤ wl w ∧ wl w ≤ 6 := by decide +kernel
theorem wd_in {w i : Nat} (hw : w < 13) (hi : i < wl w) : 97 ≤ wdc w i ∧ wdc w i ≤ 122 := by
  have h := wd_lt ⟨w, hw⟩ ⟨i, by have := wl_bd ⟨w, hw⟩; simp only at this; omega⟩
  simp only at h
  rwa [if_pos hi] at h
theorem wd_out {w i : Nat} (hw : w < 13) (hi : i < 7) (h2 : ¬ i < wl w) : wdc w i = 32 := by
  have h := wd_lt ⟨w, hw⟩ ⟨i, hi⟩
  simp only at h
  rwa [if_neg h2] at h
theorem wd_inj : ∀ w v : Fin 13, (∀ i : Fin 7, wdc w i = wdc v i) → w = v := by decide +kernel
def spl (B : Nat → Int) (p n w : Nat) : Prop := n < 7 ∧ ∀ i, i < 7 → wdc w i = (if i < n then B (p + i) else 32)
theorem spl_un {B : Nat → Int} {p n w v : Nat} (hw : w < 13) (hv : v < 13) (h1 : spl B p n w) (h2 : spl B p n v) : w = v := by
  have := wd_inj ⟨w, hw⟩ ⟨v, hv⟩ (fun i => (h1.2 i i.2).trans (h2.2 i i.2).symm)
  exact congrArg Fin.val this
noncomputable def kw (B : Nat → Int) (N p : Nat) : Int := qif (fst (spl B p (rl isL B N p)) 13 = -1) 1 (6 + fst (spl B p (rl isL B N p)) 13)
def sgk (c : Int) : Int := if c = 59 then 3 else if c = 44 then 4 else if c = 62 then 5 else 1
/-- what kind of token begins at p: 0 none, 1 bad, 2 a number, 3 4 5 a sign, from 6 on a word -/
noncomputable def kd (B : Nat → Int) (N p : Nat) : Int := qif ((p : Int) < (N : Int)) (qif (isL (bAt B N p)) (kw B N p) (qif (isD (bAt B N p)) (qif (rl isD B N p ≤ 4) 2 1) (sgk (bAt B N p)))) 0
theorem kw_bd (B : Nat → Int) (N p : Nat) : 1 ≤ kw B N p ∧ kw B N p ≤ 18 ∧ (kw B N p = 1 ∨ 6 ≤ kw B N p) := by
  unfold kw
  rcases fst_cases (spl B p (rl isL B N p)) 13 with ⟨e, -⟩ | ⟨i, hi, e, -⟩
  · rw [e, qif_t rfl]; omega
  · rw [e, qif_f (by omega)]; omega
theorem kd_0 {B : Nat → Int} {N p : Nat} : kd B N p = 0 ↔ N ≤ p := by
  unfold kd
  rcases Nat.lt_or_ge p N with q | q
  · rw [qif_t (by omega)]
    refine ⟨fun h => ?_, fun h => by omega⟩
    have h1 := kw_bd B N p
    by_cases c1 : isL (bAt B N p)
    · rw [qif_t c1] at h; omega
    · rw [qif_f c1] at h
      by_cases c2 : isD (bAt B N p)
      · rw [qif_t c2] at h
        exact absurd h (qif_or (fun z => z ≠ (0 : Int)) (by decide) (by decide))
      · rw [qif_f c2] at h
        unfold sgk at h
        repeat' split at h
        all_goals exact absurd h (by decide)
  · rw [qif_f (by omega)]
    exact ⟨fun _ => q, fun _ => rfl⟩
theorem kd_2 {B : Nat → Int} {N p : Nat} (hp : p ≤ N) : kd B N p = 2 ↔ 1 ≤ rl isD B N p ∧ rl isD B N p ≤ 4 := by
  unfold kd
  rcases Nat.lt_or_ge p N with q | q
  · rw [qif_t (by omega)]
    by_cases c2 : isD (bAt B N p)
    · have hr := rl_pos nD hp c2
      have c1 : ¬ isL (bAt B N p) := by unfold isD at c2; unfold isL; omega
      rw [qif_f c1, qif_t c2]
      by_cases c3 : rl isD B N p ≤ 4
      · rw [qif_t c3]; exact ⟨fun _ => ⟨hr, c3⟩, fun _ => rfl⟩
      · rw [qif_f c3]; exact ⟨fun h => absurd h (by decide), fun h => absurd h.2 c3⟩
    · rw [rl_0 hp c2]
      refine ⟨fun h => ?_, fun h => by omega⟩
      by_cases c1 : isL (bAt B N p)
      · rw [qif_t c1] at h
        have := kw_bd B N p
        omega
      · rw [qif_f c1, qif_f c2] at h
        unfold sgk at h
        repeat' split at h
        all_goals exact absurd h (by decide)
  · have e : p = N := by omega
    rw [qif_f (by omega), rl_0 hp (by rw [bAt_ge q]; exact nD)]
    exact ⟨fun h => absurd h (by decide), fun h => by omega⟩
theorem kd_s {B : Nat → Int} {N p : Nat} {c k : Int} (hc : (c = 59 ∧ k = 3) ∨ (c = 44 ∧ k = 4) ∨ (c = 62 ∧ k = 5)) : bAt B N p = c ↔ kd B N p = k := by
  unfold kd
  rcases Nat.lt_or_ge p N with q | q
  · rw [qif_t (by omega)]
    by_cases c1 : isL (bAt B N p)
    · rw [qif_t c1]
      have := kw_bd B N p
      unfold isL at c1
      constructor <;> intro h <;> omega
    · rw [qif_f c1]
      by_cases c2 : isD (bAt B N p)
      · rw [qif_t c2]
        unfold isD at c2
        refine ⟨fun h => by omega, fun h => ?_⟩
        exact absurd h (qif_or (fun z => z ≠ k) (by omega) (by omega))
      · rw [qif_f c2]
        unfold sgk
        repeat' split
        all_goals constructor <;> intro h <;> omega
  · rw [qif_f (by omega), bAt_ge q]
    constructor <;> intro h <;> omega
theorem kd_w {B : Nat → Int} {N p w : Nat} (hp : p ≤ N) (hw : w < 13) : kd B N p = 6 + (w : Int) ↔ spl B p (rl isL B N p) w := by
  have h2 := wl_bd ⟨w, hw⟩
  simp only at h2
  have hno : ¬ isL (bAt B N p) → ¬ spl B p (rl isL B N p) w := by
    intro c z
    have := z.2 0 (by decide)
    rw [rl_0 hp c, if_neg (by omega)] at this
    have := wd_in hw (show 0 < wl w by omega)
    omega
  unfold kd
  rcases Nat.lt_or_ge p N with q | q
  · rw [qif_t (by omega)]
    by_cases c1 : isL (bAt B N p)
    · rw [qif_t c1]
      unfold kw
      rcases fst_cases (spl B p (rl isL B N p)) 13 with ⟨e, h⟩ | ⟨i, hi, e, h3, -⟩
      · rw [e, qif_t rfl]
        exact ⟨fun z => by omega, fun z => absurd z (h w hw)⟩
      · rw [e, qif_f (by omega)]
        refine ⟨fun z => ?_, fun z => ?_⟩
        · have : i = w := by omega
          rw [← this]; exact h3
        · rw [spl_un hi hw h3 z]
    · rw [qif_f c1]
      refine ⟨fun z => ?_, fun z => absurd z (hno c1)⟩
      by_cases c2 : isD (bAt B N p)
      · rw [qif_t c2] at z
        exact absurd z (qif_or (fun y => y ≠ 6 + (w : Int)) (by omega) (by omega))
      · rw [qif_f c2] at z
        unfold sgk at z
        repeat' split at z
        all_goals omega
  · rw [qif_f (by omega)]
    exact ⟨fun z => by omega, fun z => absurd z (hno (by rw [bAt_ge q]; exact nL))⟩
/-- words as numbers -/
def w27 (D : Nat → Int) : Nat → Int
  | 0 => 0
  | i + 1 => 27 * w27 D i + D i
theorem w27_bd {D : Nat → Int} : ∀ n, (∀ i, i < n → 1 ≤ D i ∧ D i ≤ 26) → 0 ≤ w27 D n ∧ w27 D n < ((27 ^ n : Nat) : Int) ∧ (0 < n → 0 < w27 D n)
  | 0, _ => by show 0 ≤ (0 : Int) ∧ (0 : Int) < ((27 ^ 0 : Nat) : Int) ∧ _; exact ⟨by decide, by decide, fun h => absurd h (by decide)⟩
  | n + 1, h => by
    have h1 := w27_bd n (fun i hi => h i (by omega))
    have h2 := h n (by omega)
    show 0 ≤ 27 * w27 D n + D n ∧ 27 * w27 D n + D n < ((27 ^ (n + 1) : Nat) : Int) ∧ (0 < n + 1 → 0 < 27 * w27 D n + D n)
    rw [Nat.pow_succ]
    exact ⟨by omega, by omega, fun _ => by omega⟩
theorem w27_inj {D E : Nat → Int} : ∀ n m, (∀ i, i < n → 1 ≤ D i ∧ D i ≤ 26) → (∀ i, i < m → 1 ≤ E i ∧ E i ≤ 26) → w27 D n = w27 E m → n = m ∧ ∀ i, i < n → D i = E i
  | 0, 0, _, _, _ => ⟨rfl, fun i hi => absurd hi (by omega)⟩
  | 0, m + 1, _, h2, e => by
    have := (w27_bd (m + 1) h2).2.2 (by omega)
    have e : (0 : Int) = w27 E (m + 1) := e
    omega
  | n + 1, 0, h1, _, e => by
    have := (w27_bd (n + 1) h1).2.2 (by omega)
    have e : w27 D (n + 1) = (0 : Int) := e
    omega
  | n + 1, m + 1, h1, h2, e => by
    have e : 27 * w27 D n + D n = 27 * w27 E m + E m := e
    have a := h1 n (by omega)
    have b := h2 m (by omega)
    obtain ⟨q, r⟩ := w27_inj n m (fun i hi => h1 i (by omega)) (fun i hi => h2 i (by omega)) (by omega)
    subst q
    refine ⟨rfl, fun i hi => ?_⟩
    rcases Nat.lt_or_ge i n with z | z
    · exact r i z
    · have : i = n := by omega
      subst this
      omega
theorem w27_cg {D E : Nat → Int} : ∀ n, (∀ i, i < n → D i = E i) → w27 D n = w27 E n
  | 0, _ => rfl
  | n + 1, h => by
    show 27 * w27 D n + D n = 27 * w27 E n + E n
    rw [w27_cg n (fun i hi => h i (by omega)), h n (by omega)]
def wK (w : Nat) : Int := w27 (fun i => wdc w i - 96) (wl w)
def lowQ (B : Nat → Int) (p n : Nat) : Prop := ∀ i, i < n → 97 ≤ B (p + i) ∧ B (p + i) ≤ 122
noncomputable def wv (B : Nat → Int) (N p : Nat) : Int := qif (rl isL B N p ≤ 6 ∧ lowQ B p (rl isL B N p)) (w27 (fun i => B (p + i) - 96) (rl isL B N p)) (-1)
theorem wv_iff {B : Nat → Int} {N p w : Nat} (hp : p ≤ N) (hw : w < 13) : wv B N p = wK w ↔ kd B N p = 6 + (w : Int) := by
  rw [kd_w hp hw]
  have hL := rl_sp (Q := isL) B nL hp
  have hb := wl_bd ⟨w, hw⟩
  simp only at hb
  have hE : ∀ i, i < wl w → 1 ≤ (fun i => wdc w i - 96) i ∧ (fun i => wdc w i - 96) i ≤ 26 := fun i hi => by have := wd_in hw hi; simp only; omega
  have hK := w27_bd (wl w) hE
  have hK2 := hK.2.2 (by omega)
  unfold wv
  by_cases c : rl isL B N p ≤ 6 ∧ lowQ B p (rl isL B N p)
  · rw [qif_t c]
    constructor
    · intro e
      obtain ⟨q, r⟩ := w27_inj _ _ (fun i hi => by have := c.2 i hi; omega) hE e
      refine ⟨by omega, fun i hi => ?_⟩
      by_cases h : i < rl isL B N p
      · rw [if_pos h]
        have := r i h
        omega
      · rw [if_neg h]
        exact wd_out hw hi (by omega)
    · intro z
      have q : rl isL B N p = wl w := by
        rcases Nat.lt_trichotomy (rl isL B N p) (wl w) with h | h | h
        · have := z.2 (rl isL B N p) (by omega)
          rw [if_neg (by omega)] at this
          have := wd_in hw h
          omega
        · exact h
        · have := z.2 (wl w) (by omega)
          rw [if_pos h, wd_out hw (by omega) (by omega)] at this
          have := c.2 (wl w) h
          omega
      unfold wK
      rw [q]
      refine w27_cg _ (fun i hi => ?_)
      have := z.2 i (by omega)
      rw [if_pos (by omega)] at this
      rw [this]
  · rw [qif_f c]
    constructor
    · intro e
      have : (-1 : Int) = w27 (fun i => wdc w i - 96) (wl w) := e
      omega
    · intro z
      refine absurd ⟨by have := z.1; omega, fun i hi => ?_⟩ c
      have h1 := z.2 i (by have := z.1; omega)
      rw [if_pos hi] at h1
      have h2 := hL.2.1 i hi
      rw [bAt_lt (by omega), ← h1] at h2
      by_cases h3 : i < wl w
      · rw [← h1]; exact wd_in hw h3
      · rw [wd_out hw (by have := z.1; omega) h3] at h2
        unfold isL at h2
        omega
theorem kd_en {B : Nat → Int} {N p w : Nat} (hp : p ≤ N) (hw : w < 13) (h : kd B N p = 6 + (w : Int)) : p < N ∧ en B N p = p + rl isL B N p := by
  have h1 : p < N := by
    rcases Nat.lt_or_ge p N with q | q
    · exact q
    · have := (kd_0 (B := B)).mpr q; omega
  refine ⟨h1, ?_⟩
  unfold en
  by_cases c : isL (bAt B N p)
  · rw [qif_t c]
  · have h2 := (kd_w hp hw).mp h
    have h3 := h2.2 0 (by decide)
    rw [rl_0 hp c, if_neg (by omega)] at h3
    have h4 := wl_bd ⟨w, hw⟩
    simp only at h4
    have := wd_in hw (show 0 < wl w by omega)
    omega
theorem kd_en2 {B : Nat → Int} {N p : Nat} (hp : p ≤ N) (h : kd B N p = 2) : p < N ∧ en B N p = p + rl isD B N p := by
  have h1 : p < N := by
    rcases Nat.lt_or_ge p N with q | q
    · exact q
    · have := (kd_0 (B := B)).mpr q; omega
  have h2 := (kd_2 hp).mp h
  have c2 : isD (bAt B N p) := (rl_sp (Q := isD) B nD hp).2.1 0 (by omega)
  have c1 : ¬ isL (bAt B N p) := by unfold isD at c2; unfold isL; omega
  refine ⟨h1, ?_⟩
  unfold en
  rw [qif_f c1, qif_t c2]
theorem kd_en3 {B : Nat → Int} {N p : Nat} {c : Int} (hc : c = 59 ∨ c = 44 ∨ c = 62) (h : bAt B N p = c) : p < N ∧ en B N p = p + 1 := by
  have h1 : p < N := by
    rcases Nat.lt_or_ge p N with q | q
    · exact q
    · rw [bAt_ge q] at h; omega
  refine ⟨h1, ?_⟩
  unfold en
  rw [qif_f (by rw [h]; unfold isL; omega), qif_f (by rw [h]; unfold isD; omega)]
