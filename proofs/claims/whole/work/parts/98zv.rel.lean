/-! ===== Rel: the component's cells and the reference's numbers tell the same ===== -/
/-- the marks' bounds -/
def mkOk (MK : Nat → Int) (ml : Nat) : Prop := ml ≤ 8 ∧ ∀ i, i < ml → (0 ≤ MK (4 * i) ∧ MK (4 * i) ≤ 99) ∧ (0 ≤ MK (4 * i + 1) ∧ MK (4 * i + 1) ≤ 99) ∧ (-9 ≤ MK (4 * i + 2) ∧ MK (4 * i + 2) ≤ 9) ∧ (1 ≤ MK (4 * i + 3) ∧ MK (4 * i + 3) ≤ 9)
/-- a book's patterns are sets of nine -/
def bkB (R C : Nat → Int) : Prop := ∀ i, i < 96 → rlP C i → ∀ m, m < 3 → 0 ≤ R (4 * i + m) ∧ R (4 * i + m) ≤ 511
/-- a state's numbers as the reference has them: books, how many lines, plan, tree, row, log, marks -/
def stG (F G : Nat → Nat → Int) (s : Nat) (R C R' C' : Nat → Int) (fp ft fm : Int) (PL A N LG MK : Nat → Int) : Prop := ∃ (pl tl ll ml : Nat) (TL : Nat → Int),
  (staR F G s R C (bkTc R C 15 (-1) (-1) 0) (bkFc R C 15 (-1)) R' C' pl tl ll ml PL TL LG MK N ∧ ∀ j, j < 648 → G (s + 27) j = bkTc R' C' 15 (-1) (-1) 0 j) ∧ (fp = (pl : Int) ∧ ft = (tl : Int) ∧ N 166 = (ll : Int) ∧ fm = (ml : Int)) ∧ (trC TL tl ∧ ∀ k, k < 16 → A k = trF TL (fun _ => -1) tl k) ∧ (bkOk R C ∧ bkOk R' C' ∧ rwOk N ∧ bkB R C ∧ bkB R' C') ∧ (plOk PL pl ∧ ∀ i, i < pl → becV (PL (4 * i + 1)) (PL (4 * i + 3)) = PL (4 * i + 3)) ∧ mkOk MK ml
/-- the reader's, the image's, the past's share -/
def rdG (F G : Nat → Nat → Int) (f : Nat → Int) (g : Nat → Nat → Int) : Prop := ∃ N L : Nat, (f 1 = (N : Int) ∧ N ≤ 400 ∧ rdB F G (g 1) N) ∧ (F 160 7 = f 6 ∧ F 160 8 = f 7) ∧ L ≤ 16 ∧ F 170 2 = (L : Int)
def imG (F G : Nat → Nat → Int) (f : Nat → Int) (g : Nat → Nat → Int) : Prop := F 2 2 = f 40 ∧ (f 40 = 0 ∨ (f 40 = 1 ∧ stG F G 65 (g 21) (g 17) (g 22) (g 18) (f 37) (f 38) (f 39) (g 23) (g 19) (g 16) (g 20) (g 24)))
def paG (F G : Nat → Nat → Int) (f : Nat → Int) (g : Nat → Nat → Int) : Prop := ∃ b : Nat, (f 25 = (b : Int) ∧ b ≤ 6 ∧ psR F G g b) ∧ (∀ t, t < b → rwOk (bkN g t)) ∧ (∀ t, t + 1 < b → bkN g t 166 ≤ bkN g (t + 1) 166) ∧ (0 < b → bkN g (b - 1) 166 ≤ g 11 166)
def Rel (F G : Nat → Nat → Int) (f : Nat → Int) (g : Nat → Nat → Int) : Prop := f 0 = 0 ∧ stG F G 3 (g 2) (g 5) (g 3) (g 6) (f 18) (f 19) (f 27) (g 7) (g 9) (g 11) (g 13) (g 15) ∧ rdG F G f g ∧ imG F G f g ∧ paG F G f g ∧ thi G ∧ (F 216 0 = 0 ∨ F 216 0 = 1)
theorem stG_cg {F G F' G' : Nat → Nat → Int} {s : Nat} {R C R' C' : Nat → Int} {fp ft fm : Int} {PL A N LG MK : Nat → Int} (h : stG F G s R C R' C' fp ft fm PL A N LG MK) (e : ∀ a, s ≤ a → a ≤ s + 61 → F' a = F a ∧ G' a = G a) : stG F' G' s R C R' C' fp ft fm PL A N LG MK := by
  obtain ⟨pl, tl, ll, ml, TL, ⟨h1, h2⟩, h3⟩ := h
  exact ⟨pl, tl, ll, ml, TL, ⟨staR_cg h1 e, fun j hj => by rw [(e _ (by omega) (by omega)).2]; exact h2 j hj⟩, h3⟩
theorem psR_cg2 {F G F' G' g g' : Nat → Nat → Int} {b : Nat} (h : psR F G g b) (e : ∀ a, 127 ≤ a → a ≤ 159 → F' a = F a ∧ G' a = G a) (eg : g' 14 = g 14) : psR F' G' g' b := psR_cg h e eg
/-- what stands behind 171 is scratch; so are some of the reference's rows -/
theorem Rel_scr {F G F' G' : Nat → Nat → Int} {f f' : Nat → Int} {g g' : Nat → Nat → Int} (h : Rel F G f g) (e : ∀ a, a < 172 → F' a = F a ∧ G' a = G a) (ht : thi G') (hfl : F' 216 0 = 0 ∨ F' 216 0 = 1) (ef : ∀ k, k < 48 → f' k = f k) (eg : sq g g') : Rel F' G' f' g' := by
  obtain ⟨h0, h1, ⟨N, L, ⟨r1, r2, r3, r4⟩, ⟨r5, r6⟩, r7, r8⟩, ⟨i1, i2⟩, ⟨b, ⟨p1, p2, p3⟩, p4, p5, p6⟩, _, _⟩ := h
  have g' : ∀ j, j < 25 → j ≠ 12 → g' j = g j := eg
  refine ⟨by rw [ef 0 (by decide)]; exact h0, ?_, ⟨N, L, ⟨by rw [ef 1 (by decide)]; exact r1, r2, ?_, ?_⟩, ⟨?_, ?_⟩, r7, ?_⟩, ⟨?_, ?_⟩, ⟨b, ⟨by rw [ef 25 (by decide)]; exact p1, p2, ?_⟩, ?_, ?_, ?_⟩, ht, hfl⟩
  · rw [g' 2 (by decide) (by decide), g' 5 (by decide) (by decide), g' 3 (by decide) (by decide), g' 6 (by decide) (by decide), g' 7 (by decide) (by decide), g' 9 (by decide) (by decide), g' 11 (by decide) (by decide), g' 13 (by decide) (by decide), g' 15 (by decide) (by decide), ef 18 (by decide), ef 19 (by decide), ef 27 (by decide)]
    exact stG_cg h1 (fun a _ h2 => e a (by omega))
  · rw [(e 160 (by decide)).1]; exact r3
  · intro j hj; rw [(e 161 (by decide)).2, g' 1 (by decide) (by decide)]; exact r4 j hj
  · rw [(e 160 (by decide)).1, ef 6 (by decide)]; exact r5
  · rw [(e 160 (by decide)).1, ef 7 (by decide)]; exact r6
  · rw [(e 170 (by decide)).1]; exact r8
  · rw [(e 2 (by decide)).1, ef 40 (by decide)]; exact i1
  · rw [ef 40 (by decide), ef 37 (by decide), ef 38 (by decide), ef 39 (by decide), g' 21 (by decide) (by decide), g' 17 (by decide) (by decide), g' 22 (by decide) (by decide), g' 18 (by decide) (by decide), g' 23 (by decide) (by decide), g' 19 (by decide) (by decide), g' 16 (by decide) (by decide), g' 20 (by decide) (by decide), g' 24 (by decide) (by decide)]
    exact i2.imp id (fun ⟨z1, z2⟩ => ⟨z1, stG_cg z2 (fun a _ h2 => e a (by omega))⟩)
  · exact psR_cg p3 (fun a _ h2 => e a (by omega)) (g' 14 (by decide) (by decide))
  · intro t ht9; have := p4 t ht9; unfold bkN at this ⊢; rw [g' 14 (by decide) (by decide)]; exact this
  · intro t ht9; have := p5 t ht9; unfold bkN at this ⊢; rw [g' 14 (by decide) (by decide)]; exact this
  · intro hb; have := p6 hb; unfold bkN at this ⊢; rw [g' 14 (by decide) (by decide), g' 11 (by decide) (by decide)]; exact this
/-- one call on both sides: the same answer, and they go on telling the same -/
def Stq (M1 M2 : qM) (l1 l2 : List qA) : Prop := ∀ (h : qH) (F G : Nat → Nat → Int) (f : Nat → Int) (g : Nat → Nat → Int), Rel F G f g → ∃ (v : Int) (F' G' : Nat → Nat → Int) (f' : Nat → Int) (g' : Nat → Nat → Int), Rel F' G' f' g' ∧ qEx M1 0 (qR 2 :: l1) [] (xput (rput h 220 f g) F G) (some (qI v)) (xput (rput h 220 f g) F' G') ∧ qEx M2 0 (qR 220 :: l2) [] (rput (xput h F' G') 220 f g) (some (qI v)) (rput (xput h F' G') 220 f' g')
