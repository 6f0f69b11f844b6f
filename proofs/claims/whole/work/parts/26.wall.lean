/-! ===== WORDS: who sees whom on a wall ===== -/
theorem qif_not {α : Type} {P : Prop} {a b : α} : qif (¬ P) a b = qif P b a := by
  by_cases h : P
  · rw [qif_t h, qif_f (fun z => z h)]
  · rw [qif_t h, qif_f h]
theorem qif_cg {α : Type} {P Q : Prop} {a b c d : α} (h : P ↔ Q) (e1 : a = c) (e2 : b = d) : qif P a b = qif Q c d := by
  subst e1; subst e2
  by_cases p : P
  · rw [qif_t p, qif_t (h.mp p)]
  · rw [qif_f p, qif_f (fun q => p (h.mpr q))]
theorem qif_same {α : Type} {P : Prop} {a : α} : qif P a a = a := by
  by_cases h : P
  · exact qif_t h
  · exact qif_f h
noncomputable def nbL (n : Nat) (ring : Prop) (k : Nat) : Int := qif (0 < k) ((k : Int) - 1) (qif ring ((n : Int) - 1) (-1))
noncomputable def snL (n : Nat) (ring : Prop) (ga : Nat → Int) (k : Nat) : Int := qif (nbL n ring k = -1 ∨ tb (ga (nbL n ring k).toNat) 1 = true) (-1) (nbL n ring k)
noncomputable def nbR (n : Nat) (ring : Prop) (k : Nat) : Int := qif (k + 1 < n) ((k : Int) + 1) (qif ring 0 (-1))
noncomputable def snR (n : Nat) (ring : Prop) (ga : Nat → Int) (k : Nat) : Int := qif (nbR n ring k = -1 ∨ tb (ga k) 0 = true) (-1) (nbR n ring k)
theorem snL_s (n : Nat) (ring : Prop) (ga : Nat → Int) (k : Nat) : snL n ring ga (k + 1) = qif (tb (ga k) 1 = true) (-1) (k : Int) := by
  have e : nbL n ring (k + 1) = (k : Int) := by
    unfold nbL
    rw [qif_t (by omega)]
    omega
  unfold snL
  rw [e, Int.toNat_natCast]
  exact qif_cg ⟨fun h => h.elim (fun q => absurd q (by omega)) id, Or.inr⟩ rfl rfl
theorem snL_0r {n : Nat} {ring : Prop} (ga : Nat → Int) (hr : ring) (hn : 0 < n) : snL n ring ga 0 = qif (tb (ga (n - 1)) 1 = true) (-1) ((n : Int) - 1) := by
  have e : nbL n ring 0 = (n : Int) - 1 := by
    unfold nbL
    rw [qif_f (by omega), qif_t hr]
  unfold snL
  rw [e, show ((n : Int) - 1).toNat = n - 1 by omega]
  exact qif_cg ⟨fun h => h.elim (fun q => absurd q (by omega)) id, Or.inr⟩ rfl rfl
theorem snL_0n {n : Nat} {ring : Prop} (ga : Nat → Int) (hr : ¬ ring) : snL n ring ga 0 = -1 := by
  have e : nbL n ring 0 = -1 := by
    unfold nbL
    rw [qif_f (by omega), qif_f hr]
  unfold snL
  rw [qif_t (Or.inl e)]
theorem snR_i {n : Nat} {ring : Prop} (ga : Nat → Int) {k : Nat} (hk : k + 1 < n) : snR n ring ga k = qif (tb (ga k) 0 = true) (-1) ((k : Int) + 1) := by
  have e : nbR n ring k = (k : Int) + 1 := by unfold nbR; rw [qif_t hk]
  unfold snR
  rw [e]
  exact qif_cg ⟨fun h => h.elim (fun q => absurd q (by omega)) id, Or.inr⟩ rfl rfl
theorem snR_r {n : Nat} {ring : Prop} (ga : Nat → Int) {k : Nat} (hk : ¬ k + 1 < n) (hr : ring) : snR n ring ga k = qif (tb (ga k) 0 = true) (-1) 0 := by
  have e : nbR n ring k = 0 := by unfold nbR; rw [qif_f hk, qif_t hr]
  unfold snR
  rw [e]
  exact qif_cg ⟨fun h => h.elim (fun q => absurd q (by omega)) id, Or.inr⟩ rfl rfl
theorem snR_n {n : Nat} {ring : Prop} (ga : Nat → Int) {k : Nat} (hk : ¬ k + 1 < n) (hr : ¬ ring) : snR n ring ga k = -1 := by
  have e : nbR n ring k = -1 := by unfold nbR; rw [qif_f hk, qif_f hr]
  unfold snR
  rw [qif_t (Or.inl e)]
theorem qif_or {α : Type} {P : Prop} {a b : α} (q : α → Prop) (ha : q a) (hb : q b) : q (qif P a b) := by
  by_cases h : P
  · rw [qif_t h]; exact ha
  · rw [qif_f h]; exact hb
theorem snL_bd {n : Nat} {ring : Prop} (ga : Nat → Int) {k : Nat} (hk : k < n) : -1 ≤ snL n ring ga k ∧ snL n ring ga k < n := by
  unfold snL nbL
  refine qif_or (fun z => -1 ≤ z ∧ z < (n : Int)) (by omega) (qif_or (fun z => -1 ≤ z ∧ z < (n : Int)) (by omega) (qif_or (fun z => -1 ≤ z ∧ z < (n : Int)) (by omega) (by omega)))
theorem snR_bd {n : Nat} {ring : Prop} (ga : Nat → Int) {k : Nat} (hk : k < n) : -1 ≤ snR n ring ga k ∧ snR n ring ga k < n := by
  unfold snR nbR
  by_cases h1 : k + 1 < n
  · rw [qif_t h1]
    exact qif_or (fun z => -1 ≤ z ∧ z < (n : Int)) (by omega) (by omega)
  · rw [qif_f h1]
    exact qif_or (fun z => -1 ≤ z ∧ z < (n : Int)) (by omega) (qif_or (fun z => -1 ≤ z ∧ z < (n : Int)) (by omega) (by omega))
/-- what MIND is seen, by one who is late or not -/
noncomputable def saw (t : Int) (late : Prop) (mi wa : Nat → Int) : Int := qif (t = -1) 8 (qif late (wa t.toNat) (mi t.toNat))
theorem saw_bd {t : Int} {late : Prop} {mi wa : Nat → Int} {n : Nat} (ht : -1 ≤ t ∧ t < n) (hm : ∀ k, k < n → 0 ≤ mi k ∧ mi k ≤ 7) (hw : ∀ k, k < n → 0 ≤ wa k ∧ wa k ≤ 7) : 0 ≤ saw t late mi wa ∧ saw t late mi wa ≤ 8 := by
  unfold saw
  by_cases h : t = -1
  · rw [qif_t h]; decide
  · rw [qif_f h]
    have h1 := hm t.toNat (by omega)
    have h2 := hw t.toNat (by omega)
    exact qif_or (fun z => 0 ≤ z ∧ z ≤ (8 : Int)) (by omega) (by omega)
/-- the case that keeper k asks -/
noncomputable def qcs (n : Nat) (ring : Prop) (ga : Nat → Int) (late : Nat → Prop) (mi wa : Nat → Int) (k : Nat) : Int := 81 * mi k + 9 * saw (snL n ring ga k) (late k) mi wa + saw (snR n ring ga k) (late k) mi wa
theorem qcs_bd {n : Nat} {ring : Prop} {ga : Nat → Int} {late : Nat → Prop} {mi wa : Nat → Int} {k : Nat} (hk : k < n) (hm : ∀ k, k < n → 0 ≤ mi k ∧ mi k ≤ 7) (hw : ∀ k, k < n → 0 ≤ wa k ∧ wa k ≤ 7) : 0 ≤ qcs n ring ga late mi wa k ∧ qcs n ring ga late mi wa k < 648 := by
  have h1 := saw_bd (late := late k) (snL_bd (ring := ring) ga hk) hm hw
  have h2 := saw_bd (late := late k) (snR_bd (ring := ring) ga hk) hm hw
  have h3 := hm k hk
  unfold qcs
  omega
