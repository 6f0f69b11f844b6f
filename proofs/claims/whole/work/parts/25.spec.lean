/-! ===== WORDS: contents of arrays, counts, firsts ===== -/
/-- the first i places by g, the rest by f -/
def qmx (i : Nat) (g f : Nat → Int) : Nat → Int := fun j => if j < i then g j else f j
theorem qmx_0 (g f : Nat → Int) : qmx 0 g f = f := by funext j; simp [qmx]
theorem qmx_s (i : Nat) (g f : Nat → Int) : qup (qmx i g f) i (g i) = qmx (i + 1) g f := by
  funext j
  unfold qup qmx
  by_cases h : j = i
  · subst h; simp
  · by_cases h2 : j < i
    · rw [if_neg h, if_pos h2, if_pos (by omega)]
    · rw [if_neg h, if_neg h2, if_neg (by omega)]
theorem qmx_lt {i j : Nat} {g f : Nat → Int} (h : j < i) : qmx i g f j = g j := by simp [qmx, h]
theorem qmx_ge {i j : Nat} {g f : Nat → Int} (h : ¬ j < i) : qmx i g f j = f j := by simp [qmx, h]
theorem qset_self {h : qH} {a : Nat} {c : qC} (e : h.2.2 a = c) : qset h a c = h := by
  obtain ⟨n, s, f⟩ := h
  unfold qset
  congr
  funext q
  by_cases hq : q = a
  · subst hq; rw [if_pos rfl]; exact e.symm
  · rw [if_neg hq]
theorem qset_set (h : qH) (a : Nat) (c d : qC) : qset (qset h a c) a d = qset h a d := by
  unfold qset
  congr 2
  funext q
  by_cases hq : q = a
  · rw [if_pos hq, if_pos hq]
  · simp only [if_neg hq]
theorem qset_ar {h : qH} {a t n : Nat} {f g : Nat → Int} {c : qC} (e : f = g) : qset (qset h a c) a (qAr t n f) = qset h a (qAr t n g) := by rw [qset_set, e]
/-- how many of the first n places have p -/
noncomputable def cnt (p : Nat → Prop) : Nat → Int
  | 0 => 0
  | n + 1 => cnt p n + qb (p n)
theorem cnt_bd (p : Nat → Prop) (n : Nat) : 0 ≤ cnt p n ∧ cnt p n ≤ n := by
  induction n with
  | zero => exact ⟨Int.le_refl _, Int.le_refl _⟩
  | succ n ih =>
    have h := qb_bd (p n)
    show 0 ≤ cnt p n + qb (p n) ∧ cnt p n + qb (p n) ≤ ((n + 1 : Nat) : Int)
    omega
theorem cnt_congr {p q : Nat → Prop} {n : Nat} (h : ∀ k, k < n → (p k ↔ q k)) : cnt p n = cnt q n := by
  induction n with
  | zero => rfl
  | succ n ih =>
    show cnt p n + qb (p n) = cnt q n + qb (q n)
    rw [ih (fun k hk => h k (by omega)), qb_congr (h n (by omega))]
theorem cnt_0 {p : Nat → Prop} {n : Nat} : cnt p n = 0 ↔ ∀ k, k < n → ¬ p k := by
  induction n with
  | zero => exact ⟨fun _ k hk => by omega, fun _ => rfl⟩
  | succ n ih =>
    have h1 := cnt_bd p n
    have h2 := qb_bd (p n)
    show cnt p n + qb (p n) = 0 ↔ _
    constructor
    · intro e k hk
      have e1 : cnt p n = 0 := by omega
      have e2 : qb (p n) = 0 := by omega
      by_cases hkn : k = n
      · subst hkn; intro hp; rw [qb_t hp] at e2; omega
      · exact ih.mp e1 k (by omega)
    · intro hk
      rw [ih.mpr (fun k h => hk k (by omega)), qb_f (hk n (by omega))]
      rfl
theorem cnt_all {p : Nat → Prop} {n : Nat} : cnt p n = n ↔ ∀ k, k < n → p k := by
  induction n with
  | zero => exact ⟨fun _ k hk => by omega, fun _ => rfl⟩
  | succ n ih =>
    have h1 := cnt_bd p n
    have h2 := qb_bd (p n)
    show cnt p n + qb (p n) = ((n + 1 : Nat) : Int) ↔ _
    constructor
    · intro e k hk
      have e1 : cnt p n = n := by omega
      have e2 : qb (p n) = 1 := by omega
      by_cases hkn : k = n
      · subst hkn; exact qb_iff.mp e2
      · exact ih.mp e1 k (by omega)
    · intro hk
      rw [ih.mpr (fun k h => hk k (by omega)), qb_t (hk n (by omega))]
      omega
/-- the first of the first n places that has p, from d on; -1 if none -/
noncomputable def fstF (p : Nat → Prop) : Nat → Nat → Int
  | 0, _ => -1
  | n + 1, d => qif (p d) (d : Int) (fstF p n (d + 1))
noncomputable def fst (p : Nat → Prop) (n : Nat) : Int := fstF p n 0
theorem fstF_congr {p q : Nat → Prop} : ∀ (n d : Nat), (∀ k, d ≤ k → k < d + n → (p k ↔ q k)) → fstF p n d = fstF q n d
  | 0, _, _ => rfl
  | n + 1, d, h => by
    show qif (p d) (d : Int) (fstF p n (d + 1)) = qif (q d) (d : Int) (fstF q n (d + 1))
    rw [fstF_congr n (d + 1) (fun k h1 h2 => h k (by omega) (by omega))]
    by_cases hp : p d
    · rw [qif_t hp, qif_t ((h d (by omega) (by omega)).mp hp)]
    · rw [qif_f hp, qif_f (fun z => hp ((h d (by omega) (by omega)).mpr z))]
theorem fst_congr {p q : Nat → Prop} {n : Nat} (h : ∀ k, k < n → (p k ↔ q k)) : fst p n = fst q n := fstF_congr n 0 (fun k _ h2 => h k (by omega))
theorem fstF_at {p : Nat → Prop} : ∀ (n d i : Nat), d ≤ i → i < d + n → (∀ k, d ≤ k → k < i → ¬ p k) → p i → fstF p n d = i
  | 0, d, i, h1, h2, _, _ => by omega
  | n + 1, d, i, h1, h2, h3, h4 => by
    show qif (p d) (d : Int) (fstF p n (d + 1)) = i
    by_cases e : d = i
    · subst e; rw [qif_t h4]
    · rw [qif_f (h3 d (by omega) (by omega))]
      exact fstF_at n (d + 1) i (by omega) (by omega) (fun k h5 h6 => h3 k (by omega) h6) h4
theorem fst_at {p : Nat → Prop} {n i : Nat} (hi : i < n) (h3 : ∀ k, k < i → ¬ p k) (h4 : p i) : fst p n = i := fstF_at n 0 i (by omega) (by omega) (fun k _ h => h3 k h) h4
theorem fstF_none {p : Nat → Prop} : ∀ (n d : Nat), (∀ k, d ≤ k → k < d + n → ¬ p k) → fstF p n d = -1
  | 0, _, _ => rfl
  | n + 1, d, h => by
    show qif (p d) (d : Int) (fstF p n (d + 1)) = -1
    rw [qif_f (h d (by omega) (by omega))]
    exact fstF_none n (d + 1) (fun k h1 h2 => h k (by omega) (by omega))
theorem fst_none {p : Nat → Prop} {n : Nat} (h : ∀ k, k < n → ¬ p k) : fst p n = -1 := fstF_none n 0 (fun k _ h2 => h k (by omega))
theorem fst_cases (p : Nat → Prop) (n : Nat) : (fst p n = -1 ∧ ∀ k, k < n → ¬ p k) ∨ ∃ i, i < n ∧ fst p n = (i : Int) ∧ p i ∧ ∀ k, k < i → ¬ p k := by
  induction n with
  | zero => exact Or.inl ⟨rfl, fun k hk => by omega⟩
  | succ n ih =>
    rcases ih with ⟨e, h⟩ | ⟨i, h1, h2, h3, h4⟩
    · by_cases hp : p n
      · exact Or.inr ⟨n, by omega, fst_at (by omega) h hp, hp, h⟩
      · refine Or.inl ⟨fst_none ?_, ?_⟩ <;>
        · intro k hk
          by_cases hkn : k = n
          · subst hkn; exact hp
          · exact h k (by omega)
    · exact Or.inr ⟨i, by omega, fst_at (by omega) h4 h3, h3, h4⟩
