/-! ===== WORDS: what a book says: rules R (four numbers each), how many on each page C ===== -/
def bkA (C : Nat → Int) (pg wo : Int) (i : Nat) : Prop := tb pg (i / 24) = true ∧ ((i % 24 : Nat) : Int) < C (i / 24) ∧ (i : Int) ≠ wo
def bkFt (R : Nat → Int) (i o l r : Nat) : Prop := tb (R (4 * i)) o = true ∧ tb (R (4 * i + 1)) l = true ∧ tb (R (4 * i + 2)) r = true
def bkP (R C : Nat → Int) (pg wo : Int) (o l r : Nat) (i : Nat) : Prop := bkA C pg wo i ∧ bkFt R i o l r
noncomputable def bkF (R C : Nat → Int) (pg wo : Int) (o l r : Nat) : Int := qif (o = 7) (-1) (fst (bkP R C pg wo o l r) 96)
noncomputable def bkM (R C : Nat → Int) (pg wo ch sy : Int) (o l r : Nat) : Int := qif (bkF R C pg wo o l r ≠ -1) (qif (bkF R C pg wo o l r ≠ ch) (R (4 * (bkF R C pg wo o l r).toNat + 3)) sy) 8
noncomputable def bkT (R C : Nat → Int) (pg wo ch sy : Int) (o l r : Nat) : Int := qif (bkM R C pg wo ch sy o l r ≠ 8) (bkM R C pg wo ch sy o l r) (o : Int)
theorem bkF_bd (R C : Nat → Int) (pg wo : Int) (o l r : Nat) : -1 ≤ bkF R C pg wo o l r ∧ bkF R C pg wo o l r < 96 := by
  unfold bkF
  by_cases h : o = 7
  · rw [qif_t h]; decide
  · rw [qif_f h]
    rcases fst_cases (bkP R C pg wo o l r) 96 with ⟨e, -⟩ | ⟨i, hi, e, -⟩
    · rw [e]; decide
    · rw [e]; omega
/-- by the case's number -/
noncomputable def bkFc (R C : Nat → Int) (pg wo : Int) (c : Nat) : Int := bkF R C pg wo (c / 81) (c / 9 % 9) (c % 9)
noncomputable def bkTc (R C : Nat → Int) (pg wo ch sy : Int) (c : Nat) : Int := bkT R C pg wo ch sy (c / 81) (c / 9 % 9) (c % 9)
theorem cs_o {o l r : Nat} (hl : l < 9) (hr : r < 9) : (81 * o + 9 * l + r) / 81 = o := by omega
theorem cs_l {o l r : Nat} (hl : l < 9) (hr : r < 9) : (81 * o + 9 * l + r) / 9 % 9 = l := by omega
theorem cs_r {o l r : Nat} (hl : l < 9) (hr : r < 9) : (81 * o + 9 * l + r) % 9 = r := by omega
theorem bkFc_at (R C : Nat → Int) (pg wo : Int) {o l r : Nat} (hl : l < 9) (hr : r < 9) : bkFc R C pg wo (81 * o + 9 * l + r) = bkF R C pg wo o l r := by
  unfold bkFc
  rw [cs_o hl hr, cs_l hl hr, cs_r hl hr]
theorem bkTc_at (R C : Nat → Int) (pg wo ch sy : Int) {o l r : Nat} (hl : l < 9) (hr : r < 9) : bkTc R C pg wo ch sy (81 * o + 9 * l + r) = bkT R C pg wo ch sy o l r := by
  unfold bkTc
  rw [cs_o hl hr, cs_l hl hr, cs_r hl hr]
