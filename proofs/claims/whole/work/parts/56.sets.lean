/-! ===== WORDS: sets as ints; things met in the breaths of runs ===== -/
theorem bitsF_R (p : Nat → Prop) : ∀ n, R32 (bitsF p n)
  | 0 => by show R32 0; unfold R32; omega
  | _ + 1 => qOr_R _ _
theorem tb_bitsF (p : Nat → Prop) : ∀ n, n ≤ 32 → ∀ k, (tb (bitsF p n) k = true ↔ k < n ∧ p k)
  | 0, _, k => by
    show tb 0 k = true ↔ _
    rw [tb_0]
    exact ⟨fun h => absurd h (by decide), fun h => absurd h.1 (by omega)⟩
  | n + 1, hn, k => by
    show tb (qOr (bitsF p n) (qif (p n) (qShl 1 (n : Int)) 0)) k = true ↔ _
    rw [tb_or, Bool.or_eq_true, tb_bitsF p n (by omega) k]
    by_cases h : p n
    · rw [qif_t h, tb_bit (by omega), decide_eq_true_eq]
      constructor
      · rintro (⟨a, b⟩ | e)
        · exact ⟨by omega, b⟩
        · exact ⟨by omega, e ▸ h⟩
      · rintro ⟨a, b⟩
        rcases Nat.lt_or_ge k n with q | q
        · exact Or.inl ⟨q, b⟩
        · exact Or.inr (by omega)
    · rw [qif_f h, tb_0]
      constructor
      · rintro (⟨a, b⟩ | e)
        · exact ⟨by omega, b⟩
        · exact absurd e (by decide)
      · rintro ⟨a, b⟩
        rcases Nat.lt_or_ge k n with q | q
        · exact Or.inl ⟨q, b⟩
        · exact absurd ((show k = n by omega) ▸ b) h
noncomputable def bst (p : Nat → Prop) : Int := bitsF p 32
theorem bst_R (p : Nat → Prop) : R32 (bst p) := bitsF_R p 32
theorem tb_bst {p : Nat → Prop} {k : Nat} (hk : k < 32) : tb (bst p) k = true ↔ p k := by
  unfold bst
  rw [tb_bitsF p 32 (Nat.le_refl _) k]
  exact ⟨fun h => h.2, fun h => ⟨hk, h⟩⟩
theorem bst_eq {v : Int} {p : Nat → Prop} (hv : R32 v) (h : ∀ k, k < 32 → (tb v k = true ↔ p k)) : v = bst p :=
  tb_ext hv (bst_R p) (fun k hk => Bool.eq_iff_iff.mpr ((h k hk).trans (tb_bst hk).symm))
theorem bst_cg {p q : Nat → Prop} (h : ∀ k, k < 32 → (p k ↔ q k)) : bst p = bst q := bst_eq (bst_R p) (fun k hk => (tb_bst hk).trans (h k hk))
theorem bst_or {p : Nat → Prop} {a : Int} (h0 : 0 ≤ a) (ha : a < 32) : qOr (bst p) (qShl 1 a) = bst (fun k => p k ∨ a = (k : Int)) := by
  obtain ⟨a, rfl⟩ : ∃ n : Nat, a = (n : Int) := ⟨a.toNat, by omega⟩
  refine bst_eq (qOr_R _ _) (fun k hk => ?_)
  rw [tb_or, Bool.or_eq_true, tb_bst hk, tb_bit (by omega), decide_eq_true_eq]
  exact or_congr_right ⟨fun e => by omega, fun e => by omega⟩
theorem bst_0 : (0 : Int) = bst (fun _ => False) := bst_eq (by unfold R32; omega) (fun k _ => by rw [tb_0]; exact ⟨fun h => absurd h (by decide), False.elim⟩)
theorem bitsF_bst {p : Nat → Prop} {n : Nat} (hn : n ≤ 32) : bitsF p n = bst (fun k => k < n ∧ p k) := bst_eq (bitsF_R p n) (fun k _ => tb_bitsF p n hn k)
/-- S, or met as v t k for a t < i, k < n, or as v i k for a k < j -/
def ex2 (S : Nat → Prop) (v : Nat → Nat → Int) (n i j m : Nat) : Prop := S m ∨ (∃ t, t < i ∧ ∃ k, k < n ∧ v t k = (m : Int)) ∨ ∃ k, k < j ∧ v i k = (m : Int)
theorem ex2_0 {S : Nat → Prop} {v : Nat → Nat → Int} {n m : Nat} : ex2 S v n 0 0 m ↔ S m := by
  unfold ex2
  constructor
  · rintro (h | ⟨t, ht, -⟩ | ⟨k, hk, -⟩)
    · exact h
    · omega
    · omega
  · exact Or.inl
theorem ex2_s {S : Nat → Prop} {v : Nat → Nat → Int} {n i j m : Nat} : ex2 S v n i (j + 1) m ↔ ex2 S v n i j m ∨ v i j = (m : Int) := by
  unfold ex2
  constructor
  · rintro (h | h | ⟨k, hk, e⟩)
    · exact Or.inl (Or.inl h)
    · exact Or.inl (Or.inr (Or.inl h))
    · rcases Nat.lt_or_ge k j with q | q
      · exact Or.inl (Or.inr (Or.inr ⟨k, q, e⟩))
      · exact Or.inr ((show k = j by omega) ▸ e)
  · rintro ((h | h | ⟨k, hk, e⟩) | e)
    · exact Or.inl h
    · exact Or.inr (Or.inl h)
    · exact Or.inr (Or.inr ⟨k, by omega, e⟩)
    · exact Or.inr (Or.inr ⟨j, by omega, e⟩)
theorem ex2_n {S : Nat → Prop} {v : Nat → Nat → Int} {n i m : Nat} : ex2 S v n i n m ↔ ex2 S v n (i + 1) 0 m := by
  unfold ex2
  constructor
  · rintro (h | ⟨t, ht, q⟩ | q)
    · exact Or.inl h
    · exact Or.inr (Or.inl ⟨t, by omega, q⟩)
    · exact Or.inr (Or.inl ⟨i, by omega, q⟩)
  · rintro (h | ⟨t, ht, q⟩ | ⟨k, hk, -⟩)
    · exact Or.inl h
    · rcases Nat.lt_or_ge t i with w | w
      · exact Or.inr (Or.inl ⟨t, w, q⟩)
      · exact Or.inr (Or.inr ((show t = i by omega) ▸ q))
    · omega
theorem qb_up {p q : Prop} (h : p) : (1 : Int) = qb (q ∨ p) := (qb_t (Or.inr h)).symm
theorem qup_if {F : Nat → Int} {j k : Nat} {v : Int} : qup F j v k = if k = j then v else F k := rfl
theorem fstF_s {p : Nat → Prop} {n d : Nat} : fstF p (n + 1) d = qif (p d) (d : Int) (fstF p n (d + 1)) := rfl
