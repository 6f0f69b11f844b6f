/-! ===== THE COMPONENT'S STATE: its objects and arrays in the cells 2 .. 219; F: the objects' numbers, G: the arrays' contents ===== -/
def xkL : List Nat := [11, 8, 0, 20, 100, 100, 2, 100, 100, 100, 100, 2, 100, 100, 100, 100, 2, 100, 100, 100, 100, 2, 100, 100, 100, 100, 0, 20, 100, 100, 2, 100, 100, 100, 100, 2, 100, 100, 100, 100, 2, 100, 100, 100, 100, 2, 100, 100, 100, 100, 6, 100, 6, 100, 10, 100, 100, 100, 100, 6, 100, 6, 100, 8, 0, 20, 100, 100, 2, 100, 100, 100, 100, 2, 100, 100, 100, 100, 2, 100, 100, 100, 100, 2, 100, 100, 100, 100, 0, 20, 100, 100, 2, 100, 100, 100, 100, 2, 100, 100, 100, 100, 2, 100, 100, 100, 100, 2, 100, 100, 100, 100, 6, 100, 6, 100, 10, 100, 100, 100, 100, 6, 100, 6, 100, 3, 21, 100, 10, 100, 100, 100, 100, 10, 100, 100, 100, 100, 10, 100, 100, 100, 100, 10, 100, 100, 100, 100, 10, 100, 100, 100, 100, 10, 100, 100, 100, 100, 4, 100, 100, 100, 100, 2, 100, 100, 100, 100, 6, 100, 9, 7, 100, 100, 100, 7, 100, 100, 100, 0, 20, 100, 100, 2, 100, 100, 100, 100, 2, 100, 100, 100, 100, 2, 100, 100, 100, 100, 2, 100, 100, 100, 100, 100, 5, 10, 100, 100, 100, 100, 100, 100, 100, 100, 1, 100, 100, 100]
def xnL : List Nat := [0, 0, 0, 0, 648, 648, 0, 9, 9, 9, 24, 0, 9, 9, 9, 24, 0, 9, 9, 9, 24, 0, 9, 9, 9, 24, 0, 0, 648, 648, 0, 9, 9, 9, 24, 0, 9, 9, 9, 24, 0, 9, 9, 9, 24, 0, 9, 9, 9, 24, 0, 64, 0, 64, 0, 32, 32, 32, 32, 0, 600, 0, 32, 0, 0, 0, 648, 648, 0, 9, 9, 9, 24, 0, 9, 9, 9, 24, 0, 9, 9, 9, 24, 0, 9, 9, 9, 24, 0, 0, 648, 648, 0, 9, 9, 9, 24, 0, 9, 9, 9, 24, 0, 9, 9, 9, 24, 0, 9, 9, 9, 24, 0, 64, 0, 64, 0, 32, 32, 32, 32, 0, 600, 0, 32, 0, 0, 6, 0, 32, 32, 32, 32, 0, 32, 32, 32, 32, 0, 32, 32, 32, 32, 0, 32, 32, 32, 32, 0, 32, 32, 32, 32, 0, 32, 32, 32, 32, 0, 400, 401, 401, 401, 0, 9, 9, 9, 24, 0, 64, 0, 0, 32, 32, 32, 0, 32, 32, 32, 0, 0, 648, 648, 0, 9, 9, 9, 24, 0, 9, 9, 9, 24, 0, 9, 9, 9, 24, 0, 9, 9, 9, 24, 648, 0, 0, 32, 32, 32, 32, 2002, 2002, 1024, 2001, 0, 72, 72, 32]
/-- the class of the object in cell a; 20 the pages of a book, 21 the walls of the past, 100 an array of numbers -/
def xk (a : Nat) : Nat := xkL.getD (a - 2) 99
def xN (a : Nat) : Nat := xnL.getD (a - 2) 0
def xT (a : Nat) : Nat := if a = 212 ∨ a = 213 ∨ a = 217 ∨ a = 218 then 1 else 0
def xM (a : Nat) : Nat := xN (a + 1) / 4
abbrev xIn (a : Nat) : Prop := 2 ≤ a ∧ a < 220
def xAr (a t n : Nat) : Prop := xIn a ∧ xk a = 100 ∧ xT a = t ∧ xN a = n
def xsh (c g : Nat → Int) (a : Nat) : qC := match xk a with
  | 0 => qOb 0 [qR (a + 1), qR (a + 2), qR (a + 3)]
  | 1 => qOb 1 [qR (a + 1 + (c 0).toNat), qR (a + 2 - (c 0).toNat)]
  | 2 => qOb 2 [qR (a + 1), qR (a + 2), qR (a + 3), qR (a + 4), qI (c 4)]
  | 3 => qOb 3 [qR (a + 1), qR (a + 2), qI (c 2), qI (c 3)]
  | 4 => qOb 4 [qR (a + 1), qI (c 1), qR (a + 2), qR (a + 3), qR (a + 4), qI (c 5), qI (c 6), qI (c 7), qI (c 8), qR (a + 5), qR (a + 10)]
  | 5 => qOb 5 [qR (a + 1), qR (a + 6), qR (a + 7), qR (a + 8), qR (a + 9), qI (c 5), qI (c 6)]
  | 6 => qOb 6 [qR (a + 1), qI (xM a), qI (c 2)]
  | 7 => qOb 7 [qR (a + 1), qR (a + 2), qR (a + 3), qI (c 3), qI (c 4), qI (c 5), qI (c 6), qI (c 7), qI (c 8), qI (c 9), qI (c 10)]
  | 8 => qOb 8 [qR (a + 1), qR (a + 25), qR (a + 49), qR (a + 51), qR (a + 53), qR (a + 58), qR (a + 60)]
  | 9 => qOb 9 [qR (a + 1), qR (a + 5), qR (a + 9), qR (a + 33), qI (c 4), qI (c 5), qI (c 6)]
  | 10 => qOb 10 [qI (c 0), qI (c 1), qR (a + 1), qR (a + 2), qR (a + 3), qR (a + 4), qI (c 6), qI (c 7), qI (c 8), qI (c 9), qI (c 10), qI (c 11)]
  | 11 => qOb 11 [qR (a + 1), qR (a + 63), qI (c 2), qR (a + 125), qR (a + 158), qR (a + 170), qR (a + 204), qR (a + 214), qR (a + 217)]
  | 20 => qRr 2 4 (fun j => if j < 4 then some (a + 3 + 5 * j) else none)
  | 21 => qRr 10 6 (fun j => if j < 6 then some (a + 2 + 5 * j) else none)
  | _ => qAr (xT a) (xN a) g
def xput (h : qH) (F G : Nat → Nat → Int) : qH := (h.1, h.2.1, fun a => if 2 ≤ a ∧ a < 220 then xsh (F a) (G a) a else h.2.2 a)
section XPut
variable {h : qH} {F G : Nat → Nat → Int} {a : Nat} {c g : Nat → Int}
theorem xsh_0 (hk : xk a = 0) : xsh c g a = qOb 0 [qR (a + 1), qR (a + 2), qR (a + 3)] := by unfold xsh; rw [hk]; try rfl
theorem xsh_1 (hk : xk a = 1) : xsh c g a = qOb 1 [qR (a + 1 + (c 0).toNat), qR (a + 2 - (c 0).toNat)] := by unfold xsh; rw [hk]; try rfl
theorem xsh_2 (hk : xk a = 2) : xsh c g a = qOb 2 [qR (a + 1), qR (a + 2), qR (a + 3), qR (a + 4), qI (c 4)] := by unfold xsh; rw [hk]; try rfl
theorem xsh_3 (hk : xk a = 3) : xsh c g a = qOb 3 [qR (a + 1), qR (a + 2), qI (c 2), qI (c 3)] := by unfold xsh; rw [hk]; try rfl
theorem xsh_4 (hk : xk a = 4) : xsh c g a = qOb 4 [qR (a + 1), qI (c 1), qR (a + 2), qR (a + 3), qR (a + 4), qI (c 5), qI (c 6), qI (c 7), qI (c 8), qR (a + 5), qR (a + 10)] := by unfold xsh; rw [hk]; try rfl
theorem xsh_5 (hk : xk a = 5) : xsh c g a = qOb 5 [qR (a + 1), qR (a + 6), qR (a + 7), qR (a + 8), qR (a + 9), qI (c 5), qI (c 6)] := by unfold xsh; rw [hk]; try rfl
theorem xsh_6 (hk : xk a = 6) : xsh c g a = qOb 6 [qR (a + 1), qI (xM a), qI (c 2)] := by unfold xsh; rw [hk]; try rfl
theorem xsh_7 (hk : xk a = 7) : xsh c g a = qOb 7 [qR (a + 1), qR (a + 2), qR (a + 3), qI (c 3), qI (c 4), qI (c 5), qI (c 6), qI (c 7), qI (c 8), qI (c 9), qI (c 10)] := by unfold xsh; rw [hk]; try rfl
theorem xsh_8 (hk : xk a = 8) : xsh c g a = qOb 8 [qR (a + 1), qR (a + 25), qR (a + 49), qR (a + 51), qR (a + 53), qR (a + 58), qR (a + 60)] := by unfold xsh; rw [hk]; try rfl
theorem xsh_9 (hk : xk a = 9) : xsh c g a = qOb 9 [qR (a + 1), qR (a + 5), qR (a + 9), qR (a + 33), qI (c 4), qI (c 5), qI (c 6)] := by unfold xsh; rw [hk]; try rfl
theorem xsh_10 (hk : xk a = 10) : xsh c g a = qOb 10 [qI (c 0), qI (c 1), qR (a + 1), qR (a + 2), qR (a + 3), qR (a + 4), qI (c 6), qI (c 7), qI (c 8), qI (c 9), qI (c 10), qI (c 11)] := by unfold xsh; rw [hk]; try rfl
theorem xsh_11 (hk : xk a = 11) : xsh c g a = qOb 11 [qR (a + 1), qR (a + 63), qI (c 2), qR (a + 125), qR (a + 158), qR (a + 170), qR (a + 204), qR (a + 214), qR (a + 217)] := by unfold xsh; rw [hk]; try rfl
theorem xsh_20 (hk : xk a = 20) : xsh c g a = qRr 2 4 (fun j => if j < 4 then some (a + 3 + 5 * j) else none) := by unfold xsh; rw [hk]; try rfl
theorem xsh_21 (hk : xk a = 21) : xsh c g a = qRr 10 6 (fun j => if j < 6 then some (a + 2 + 5 * j) else none) := by unfold xsh; rw [hk]; try rfl
theorem xsh_100 (hk : xk a = 100) : xsh c g a = qAr (xT a) (xN a) g := by unfold xsh; rw [hk]; try rfl
theorem xput_at (ha : xIn a) : (xput h F G).2.2 a = xsh (F a) (G a) a := by
  simp only [xput]
  rw [if_pos ha]
theorem xput_out (ha : ¬ xIn a) : (xput h F G).2.2 a = h.2.2 a := by
  simp only [xput]
  rw [if_neg ha]
theorem xput_ar {t n : Nat} (hA : xAr a t n) (hg : G a = g) : (xput h F G).2.2 a = qAr t n g := by
  obtain ⟨h1, h2, rfl, rfl⟩ := hA
  rw [xput_at h1, xsh_100 h2, hg]
theorem xput_ob {q : qC} (ha : xIn a) (hc : F a = c) (e : xsh c (G a) a = q) : (xput h F G).2.2 a = q := by
  rw [xput_at ha, hc, e]
theorem xput_sa {t n : Nat} {f : Nat → Int} (hA : xAr a t n) : qset (xput h F G) a (qAr t n f) = xput h F (gup G a f) := by
  obtain ⟨h1, h2, rfl, rfl⟩ := hA
  unfold qset xput
  congr 2
  funext q
  by_cases hq : q = a
  · subst hq
    rw [if_pos rfl, if_pos h1, xsh_100 h2, gup_eq]
  · rw [if_neg hq]
    simp only [gup_ne hq]
theorem xput_sf {q : qC} (ha : xIn a) (e : xsh c (G a) a = q) : qset (xput h F G) a q = xput h (gup F a c) G := by
  subst e
  unfold qset xput
  congr 2
  funext b
  by_cases hq : b = a
  · subst hq
    rw [if_pos rfl, if_pos ha, gup_eq]
  · rw [if_neg hq]
    simp only [gup_ne hq]
theorem xput_cg {F' G' : Nat → Nat → Int} (e1 : F = F') (e2 : G = G') : xput h F G = xput h F' G' := by rw [e1, e2]
theorem xput_put {F2 G2 : Nat → Nat → Int} : xput (xput h F G) F2 G2 = xput h F2 G2 := by
  unfold xput
  congr 2
  funext q
  by_cases hm : 2 ≤ q ∧ q < 220
  · simp only [if_pos hm]
  · simp only [if_neg hm]
theorem xput_rput {f : Nat → Int} {g2 : Nat → Nat → Int} : xput (rput h 220 f g2) F G = rput (xput h F G) 220 f g2 := by
  unfold xput rput
  congr 2
  funext q
  by_cases hm : 2 ≤ q ∧ q < 220
  · rw [if_pos hm, if_neg (by omega), if_neg (by omega)]
    simp only [if_pos hm]
  · simp only [if_neg hm]
theorem xput_of (e : ∀ a, xIn a → h.2.2 a = xsh (F a) (G a) a) : xput h F G = h := by
  obtain ⟨n, s, f⟩ := h
  unfold xput
  congr 2
  funext q
  by_cases hm : 2 ≤ q ∧ q < 220
  · rw [if_pos hm]; exact (e q hm).symm
  · rw [if_neg hm]
end XPut
theorem xk_out {a : Nat} (h : 220 ≤ a) : xk a = 99 := by
  unfold xk
  rw [List.getD_eq_getElem?_getD, List.getElem?_eq_none (by have : xkL.length = 218 := by decide +kernel
                                                            omega)]
  rfl
/-- of all cells, one by one -/
theorem xall {p : Nat → Bool} (h : (List.range 218).all (fun i => p (i + 2)) = true) {a : Nat} (h1 : 2 ≤ a) (h2 : a < 220) : p a = true := by
  have := List.all_eq_true.mp h (a - 2) (List.mem_range.mpr (by omega))
  rwa [show a - 2 + 2 = a by omega] at this
def pgx_p (a : Nat) : Bool := !(xk a == 2) || ((decide (a + 1 < 220) && xk (a + 1) == 100 && xT (a + 1) == 0 && xN (a + 1) == 9) && (decide (a + 2 < 220) && xk (a + 2) == 100 && xT (a + 2) == 0 && xN (a + 2) == 9) && (decide (a + 3 < 220) && xk (a + 3) == 100 && xT (a + 3) == 0 && xN (a + 3) == 9) && (decide (a + 4 < 220) && xk (a + 4) == 100 && xT (a + 4) == 0 && xN (a + 4) == 24))
theorem pgx_b : (List.range 218).all (fun i => pgx_p (i + 2)) = true := by decide +kernel
theorem pgx_in {a : Nat} (ha : 2 ≤ a) (hk : xk a = 2) : xIn a := by
  rcases Nat.lt_or_ge a 220 with q | q
  · exact ⟨ha, q⟩
  · rw [xk_out q] at hk; exact absurd hk (by decide)
theorem pgx_1 {a : Nat} (ha : 2 ≤ a) (hk : xk a = 2) : xAr (a + 1) 0 9 := by
  have h := xall (p := pgx_p) pgx_b ha (pgx_in ha hk).2
  simp only [pgx_p, hk, beq_self_eq_true, Bool.not_true, Bool.false_or, Bool.and_eq_true, decide_eq_true_eq, beq_iff_eq] at h
  exact ⟨⟨by omega, by omega⟩, by omega, by omega, by omega⟩
theorem pgx_2 {a : Nat} (ha : 2 ≤ a) (hk : xk a = 2) : xAr (a + 2) 0 9 := by
  have h := xall (p := pgx_p) pgx_b ha (pgx_in ha hk).2
  simp only [pgx_p, hk, beq_self_eq_true, Bool.not_true, Bool.false_or, Bool.and_eq_true, decide_eq_true_eq, beq_iff_eq] at h
  exact ⟨⟨by omega, by omega⟩, by omega, by omega, by omega⟩
theorem pgx_3 {a : Nat} (ha : 2 ≤ a) (hk : xk a = 2) : xAr (a + 3) 0 9 := by
  have h := xall (p := pgx_p) pgx_b ha (pgx_in ha hk).2
  simp only [pgx_p, hk, beq_self_eq_true, Bool.not_true, Bool.false_or, Bool.and_eq_true, decide_eq_true_eq, beq_iff_eq] at h
  exact ⟨⟨by omega, by omega⟩, by omega, by omega, by omega⟩
theorem pgx_4 {a : Nat} (ha : 2 ≤ a) (hk : xk a = 2) : xAr (a + 4) 0 24 := by
  have h := xall (p := pgx_p) pgx_b ha (pgx_in ha hk).2
  simp only [pgx_p, hk, beq_self_eq_true, Bool.not_true, Bool.false_or, Bool.and_eq_true, decide_eq_true_eq, beq_iff_eq] at h
  exact ⟨⟨by omega, by omega⟩, by omega, by omega, by omega⟩
def wlx_p (a : Nat) : Bool := !(xk a == 10) || ((decide (a + 1 < 220) && xk (a + 1) == 100 && xT (a + 1) == 0 && xN (a + 1) == 32) && (decide (a + 2 < 220) && xk (a + 2) == 100 && xT (a + 2) == 0 && xN (a + 2) == 32) && (decide (a + 3 < 220) && xk (a + 3) == 100 && xT (a + 3) == 0 && xN (a + 3) == 32) && (decide (a + 4 < 220) && xk (a + 4) == 100 && xT (a + 4) == 0 && xN (a + 4) == 32))
theorem wlx_b : (List.range 218).all (fun i => wlx_p (i + 2)) = true := by decide +kernel
theorem wlx_in {a : Nat} (ha : 2 ≤ a) (hk : xk a = 10) : xIn a := by
  rcases Nat.lt_or_ge a 220 with q | q
  · exact ⟨ha, q⟩
  · rw [xk_out q] at hk; exact absurd hk (by decide)
theorem wlx_1 {a : Nat} (ha : 2 ≤ a) (hk : xk a = 10) : xAr (a + 1) 0 32 := by
  have h := xall (p := wlx_p) wlx_b ha (wlx_in ha hk).2
  simp only [wlx_p, hk, beq_self_eq_true, Bool.not_true, Bool.false_or, Bool.and_eq_true, decide_eq_true_eq, beq_iff_eq] at h
  exact ⟨⟨by omega, by omega⟩, by omega, by omega, by omega⟩
theorem wlx_2 {a : Nat} (ha : 2 ≤ a) (hk : xk a = 10) : xAr (a + 2) 0 32 := by
  have h := xall (p := wlx_p) wlx_b ha (wlx_in ha hk).2
  simp only [wlx_p, hk, beq_self_eq_true, Bool.not_true, Bool.false_or, Bool.and_eq_true, decide_eq_true_eq, beq_iff_eq] at h
  exact ⟨⟨by omega, by omega⟩, by omega, by omega, by omega⟩
theorem wlx_3 {a : Nat} (ha : 2 ≤ a) (hk : xk a = 10) : xAr (a + 3) 0 32 := by
  have h := xall (p := wlx_p) wlx_b ha (wlx_in ha hk).2
  simp only [wlx_p, hk, beq_self_eq_true, Bool.not_true, Bool.false_or, Bool.and_eq_true, decide_eq_true_eq, beq_iff_eq] at h
  exact ⟨⟨by omega, by omega⟩, by omega, by omega, by omega⟩
theorem wlx_4 {a : Nat} (ha : 2 ≤ a) (hk : xk a = 10) : xAr (a + 4) 0 32 := by
  have h := xall (p := wlx_p) wlx_b ha (wlx_in ha hk).2
  simp only [wlx_p, hk, beq_self_eq_true, Bool.not_true, Bool.false_or, Bool.and_eq_true, decide_eq_true_eq, beq_iff_eq] at h
  exact ⟨⟨by omega, by omega⟩, by omega, by omega, by omega⟩
def rux_p (a : Nat) : Bool := !(xk a == 7) || ((decide (a + 1 < 220) && xk (a + 1) == 100 && xT (a + 1) == 0 && xN (a + 1) == 32) && (decide (a + 2 < 220) && xk (a + 2) == 100 && xT (a + 2) == 0 && xN (a + 2) == 32) && (decide (a + 3 < 220) && xk (a + 3) == 100 && xT (a + 3) == 0 && xN (a + 3) == 32))
theorem rux_b : (List.range 218).all (fun i => rux_p (i + 2)) = true := by decide +kernel
theorem rux_in {a : Nat} (ha : 2 ≤ a) (hk : xk a = 7) : xIn a := by
  rcases Nat.lt_or_ge a 220 with q | q
  · exact ⟨ha, q⟩
  · rw [xk_out q] at hk; exact absurd hk (by decide)
theorem rux_1 {a : Nat} (ha : 2 ≤ a) (hk : xk a = 7) : xAr (a + 1) 0 32 := by
  have h := xall (p := rux_p) rux_b ha (rux_in ha hk).2
  simp only [rux_p, hk, beq_self_eq_true, Bool.not_true, Bool.false_or, Bool.and_eq_true, decide_eq_true_eq, beq_iff_eq] at h
  exact ⟨⟨by omega, by omega⟩, by omega, by omega, by omega⟩
theorem rux_2 {a : Nat} (ha : 2 ≤ a) (hk : xk a = 7) : xAr (a + 2) 0 32 := by
  have h := xall (p := rux_p) rux_b ha (rux_in ha hk).2
  simp only [rux_p, hk, beq_self_eq_true, Bool.not_true, Bool.false_or, Bool.and_eq_true, decide_eq_true_eq, beq_iff_eq] at h
  exact ⟨⟨by omega, by omega⟩, by omega, by omega, by omega⟩
theorem rux_3 {a : Nat} (ha : 2 ≤ a) (hk : xk a = 7) : xAr (a + 3) 0 32 := by
  have h := xall (p := rux_p) rux_b ha (rux_in ha hk).2
  simp only [rux_p, hk, beq_self_eq_true, Bool.not_true, Bool.false_or, Bool.and_eq_true, decide_eq_true_eq, beq_iff_eq] at h
  exact ⟨⟨by omega, by omega⟩, by omega, by omega, by omega⟩
def bkx_p (a : Nat) : Bool := !(xk a == 0) || ((decide (a + 2 < 220) && xk (a + 2) == 100 && xT (a + 2) == 0 && xN (a + 2) == 648) && (decide (a + 3 < 220) && xk (a + 3) == 100 && xT (a + 3) == 0 && xN (a + 3) == 648))
theorem bkx_b : (List.range 218).all (fun i => bkx_p (i + 2)) = true := by decide +kernel
theorem bkx_in {a : Nat} (ha : 2 ≤ a) (hk : xk a = 0) : xIn a := by
  rcases Nat.lt_or_ge a 220 with q | q
  · exact ⟨ha, q⟩
  · rw [xk_out q] at hk; exact absurd hk (by decide)
theorem bkx_2 {a : Nat} (ha : 2 ≤ a) (hk : xk a = 0) : xAr (a + 2) 0 648 := by
  have h := xall (p := bkx_p) bkx_b ha (bkx_in ha hk).2
  simp only [bkx_p, hk, beq_self_eq_true, Bool.not_true, Bool.false_or, Bool.and_eq_true, decide_eq_true_eq, beq_iff_eq] at h
  exact ⟨⟨by omega, by omega⟩, by omega, by omega, by omega⟩
theorem bkx_3 {a : Nat} (ha : 2 ≤ a) (hk : xk a = 0) : xAr (a + 3) 0 648 := by
  have h := xall (p := bkx_p) bkx_b ha (bkx_in ha hk).2
  simp only [bkx_p, hk, beq_self_eq_true, Bool.not_true, Bool.false_or, Bool.and_eq_true, decide_eq_true_eq, beq_iff_eq] at h
  exact ⟨⟨by omega, by omega⟩, by omega, by omega, by omega⟩
def bkp_p (a : Nat) : Bool := !(xk a == 0) || (xk (a + 1) == 20 && decide (a + 23 < 220) && xk (a + 4) == 2 && xk (a + 9) == 2 && xk (a + 14) == 2 && xk (a + 19) == 2)
theorem bkp_b : (List.range 218).all (fun i => bkp_p (i + 2)) = true := by decide +kernel
theorem bkp {a : Nat} (ha : 2 ≤ a) (hk : xk a = 0) : xk (a + 1) = 20 ∧ a + 23 < 220 ∧ ∀ j, j < 4 → xk (a + 4 + 5 * j) = 2 := by
  have h := xall (p := bkp_p) bkp_b ha (bkx_in ha hk).2
  simp only [bkp_p, hk, beq_self_eq_true, Bool.not_true, Bool.false_or, Bool.and_eq_true, decide_eq_true_eq, beq_iff_eq] at h
  refine ⟨h.1.1.1.1.1, h.1.1.1.1.2, fun j hj => ?_⟩
  have : j = 0 ∨ j = 1 ∨ j = 2 ∨ j = 3 := by omega
  rcases this with rfl | rfl | rfl | rfl
  · exact h.1.1.1.2
  · exact h.1.1.2
  · exact h.1.2
  · exact h.2
def rwx_p (a : Nat) : Bool := !(xk a == 6) || (decide (a + 1 < 220) && xk (a + 1) == 100 && xT (a + 1) == 0 && xN (a + 1) == 4 * xM a && decide (xM a ≤ 150))
theorem rwx_b : (List.range 218).all (fun i => rwx_p (i + 2)) = true := by decide +kernel
theorem rwx_in {a : Nat} (ha : 2 ≤ a) (hk : xk a = 6) : xIn a := by
  rcases Nat.lt_or_ge a 220 with q | q
  · exact ⟨ha, q⟩
  · rw [xk_out q] at hk; exact absurd hk (by decide)
theorem rwx_1 {a : Nat} (ha : 2 ≤ a) (hk : xk a = 6) : xAr (a + 1) 0 (4 * xM a) ∧ xM a ≤ 150 := by
  have h := xall (p := rwx_p) rwx_b ha (rwx_in ha hk).2
  simp only [rwx_p, hk, beq_self_eq_true, Bool.not_true, Bool.false_or, Bool.and_eq_true, decide_eq_true_eq, beq_iff_eq] at h
  exact ⟨⟨⟨by omega, by omega⟩, by omega, by omega, by omega⟩, by omega⟩
theorem xo_2 : xk 2 = 11 := rfl
theorem xi_2 : xIn 2 := ⟨by decide, by decide⟩
theorem xo_3 : xk 3 = 8 := rfl
theorem xi_3 : xIn 3 := ⟨by decide, by decide⟩
theorem xo_4 : xk 4 = 0 := rfl
theorem xi_4 : xIn 4 := ⟨by decide, by decide⟩
theorem xo_5 : xk 5 = 20 := rfl
theorem xi_5 : xIn 5 := ⟨by decide, by decide⟩
theorem xa_6 : xAr 6 0 648 := ⟨⟨by decide, by decide⟩, rfl, rfl, rfl⟩
theorem xa_7 : xAr 7 0 648 := ⟨⟨by decide, by decide⟩, rfl, rfl, rfl⟩
theorem xo_8 : xk 8 = 2 := rfl
theorem xi_8 : xIn 8 := ⟨by decide, by decide⟩
theorem xa_9 : xAr 9 0 9 := ⟨⟨by decide, by decide⟩, rfl, rfl, rfl⟩
theorem xa_10 : xAr 10 0 9 := ⟨⟨by decide, by decide⟩, rfl, rfl, rfl⟩
theorem xa_11 : xAr 11 0 9 := ⟨⟨by decide, by decide⟩, rfl, rfl, rfl⟩
theorem xa_12 : xAr 12 0 24 := ⟨⟨by decide, by decide⟩, rfl, rfl, rfl⟩
theorem xo_13 : xk 13 = 2 := rfl
theorem xi_13 : xIn 13 := ⟨by decide, by decide⟩
theorem xa_14 : xAr 14 0 9 := ⟨⟨by decide, by decide⟩, rfl, rfl, rfl⟩
theorem xa_15 : xAr 15 0 9 := ⟨⟨by decide, by decide⟩, rfl, rfl, rfl⟩
theorem xa_16 : xAr 16 0 9 := ⟨⟨by decide, by decide⟩, rfl, rfl, rfl⟩
theorem xa_17 : xAr 17 0 24 := ⟨⟨by decide, by decide⟩, rfl, rfl, rfl⟩
theorem xo_18 : xk 18 = 2 := rfl
theorem xi_18 : xIn 18 := ⟨by decide, by decide⟩
theorem xa_19 : xAr 19 0 9 := ⟨⟨by decide, by decide⟩, rfl, rfl, rfl⟩
theorem xa_20 : xAr 20 0 9 := ⟨⟨by decide, by decide⟩, rfl, rfl, rfl⟩
theorem xa_21 : xAr 21 0 9 := ⟨⟨by decide, by decide⟩, rfl, rfl, rfl⟩
theorem xa_22 : xAr 22 0 24 := ⟨⟨by decide, by decide⟩, rfl, rfl, rfl⟩
theorem xo_23 : xk 23 = 2 := rfl
theorem xi_23 : xIn 23 := ⟨by decide, by decide⟩
theorem xa_24 : xAr 24 0 9 := ⟨⟨by decide, by decide⟩, rfl, rfl, rfl⟩
theorem xa_25 : xAr 25 0 9 := ⟨⟨by decide, by decide⟩, rfl, rfl, rfl⟩
theorem xa_26 : xAr 26 0 9 := ⟨⟨by decide, by decide⟩, rfl, rfl, rfl⟩
theorem xa_27 : xAr 27 0 24 := ⟨⟨by decide, by decide⟩, rfl, rfl, rfl⟩
theorem xo_28 : xk 28 = 0 := rfl
theorem xi_28 : xIn 28 := ⟨by decide, by decide⟩
theorem xo_29 : xk 29 = 20 := rfl
theorem xi_29 : xIn 29 := ⟨by decide, by decide⟩
theorem xa_30 : xAr 30 0 648 := ⟨⟨by decide, by decide⟩, rfl, rfl, rfl⟩
theorem xa_31 : xAr 31 0 648 := ⟨⟨by decide, by decide⟩, rfl, rfl, rfl⟩
theorem xo_32 : xk 32 = 2 := rfl
theorem xi_32 : xIn 32 := ⟨by decide, by decide⟩
theorem xa_33 : xAr 33 0 9 := ⟨⟨by decide, by decide⟩, rfl, rfl, rfl⟩
theorem xa_34 : xAr 34 0 9 := ⟨⟨by decide, by decide⟩, rfl, rfl, rfl⟩
theorem xa_35 : xAr 35 0 9 := ⟨⟨by decide, by decide⟩, rfl, rfl, rfl⟩
theorem xa_36 : xAr 36 0 24 := ⟨⟨by decide, by decide⟩, rfl, rfl, rfl⟩
theorem xo_37 : xk 37 = 2 := rfl
theorem xi_37 : xIn 37 := ⟨by decide, by decide⟩
theorem xa_38 : xAr 38 0 9 := ⟨⟨by decide, by decide⟩, rfl, rfl, rfl⟩
theorem xa_39 : xAr 39 0 9 := ⟨⟨by decide, by decide⟩, rfl, rfl, rfl⟩
theorem xa_40 : xAr 40 0 9 := ⟨⟨by decide, by decide⟩, rfl, rfl, rfl⟩
theorem xa_41 : xAr 41 0 24 := ⟨⟨by decide, by decide⟩, rfl, rfl, rfl⟩
theorem xo_42 : xk 42 = 2 := rfl
theorem xi_42 : xIn 42 := ⟨by decide, by decide⟩
theorem xa_43 : xAr 43 0 9 := ⟨⟨by decide, by decide⟩, rfl, rfl, rfl⟩
theorem xa_44 : xAr 44 0 9 := ⟨⟨by decide, by decide⟩, rfl, rfl, rfl⟩
theorem xa_45 : xAr 45 0 9 := ⟨⟨by decide, by decide⟩, rfl, rfl, rfl⟩
theorem xa_46 : xAr 46 0 24 := ⟨⟨by decide, by decide⟩, rfl, rfl, rfl⟩
theorem xo_47 : xk 47 = 2 := rfl
theorem xi_47 : xIn 47 := ⟨by decide, by decide⟩
theorem xa_48 : xAr 48 0 9 := ⟨⟨by decide, by decide⟩, rfl, rfl, rfl⟩
theorem xa_49 : xAr 49 0 9 := ⟨⟨by decide, by decide⟩, rfl, rfl, rfl⟩
theorem xa_50 : xAr 50 0 9 := ⟨⟨by decide, by decide⟩, rfl, rfl, rfl⟩
theorem xa_51 : xAr 51 0 24 := ⟨⟨by decide, by decide⟩, rfl, rfl, rfl⟩
theorem xo_52 : xk 52 = 6 := rfl
theorem xi_52 : xIn 52 := ⟨by decide, by decide⟩
theorem xa_53 : xAr 53 0 64 := ⟨⟨by decide, by decide⟩, rfl, rfl, rfl⟩
theorem xo_54 : xk 54 = 6 := rfl
theorem xi_54 : xIn 54 := ⟨by decide, by decide⟩
theorem xa_55 : xAr 55 0 64 := ⟨⟨by decide, by decide⟩, rfl, rfl, rfl⟩
theorem xo_56 : xk 56 = 10 := rfl
theorem xi_56 : xIn 56 := ⟨by decide, by decide⟩
theorem xa_57 : xAr 57 0 32 := ⟨⟨by decide, by decide⟩, rfl, rfl, rfl⟩
theorem xa_58 : xAr 58 0 32 := ⟨⟨by decide, by decide⟩, rfl, rfl, rfl⟩
theorem xa_59 : xAr 59 0 32 := ⟨⟨by decide, by decide⟩, rfl, rfl, rfl⟩
theorem xa_60 : xAr 60 0 32 := ⟨⟨by decide, by decide⟩, rfl, rfl, rfl⟩
theorem xo_61 : xk 61 = 6 := rfl
theorem xi_61 : xIn 61 := ⟨by decide, by decide⟩
theorem xa_62 : xAr 62 0 600 := ⟨⟨by decide, by decide⟩, rfl, rfl, rfl⟩
theorem xo_63 : xk 63 = 6 := rfl
theorem xi_63 : xIn 63 := ⟨by decide, by decide⟩
theorem xa_64 : xAr 64 0 32 := ⟨⟨by decide, by decide⟩, rfl, rfl, rfl⟩
theorem xo_65 : xk 65 = 8 := rfl
theorem xi_65 : xIn 65 := ⟨by decide, by decide⟩
theorem xo_66 : xk 66 = 0 := rfl
theorem xi_66 : xIn 66 := ⟨by decide, by decide⟩
theorem xo_67 : xk 67 = 20 := rfl
theorem xi_67 : xIn 67 := ⟨by decide, by decide⟩
theorem xa_68 : xAr 68 0 648 := ⟨⟨by decide, by decide⟩, rfl, rfl, rfl⟩
theorem xa_69 : xAr 69 0 648 := ⟨⟨by decide, by decide⟩, rfl, rfl, rfl⟩
theorem xo_70 : xk 70 = 2 := rfl
theorem xi_70 : xIn 70 := ⟨by decide, by decide⟩
theorem xa_71 : xAr 71 0 9 := ⟨⟨by decide, by decide⟩, rfl, rfl, rfl⟩
theorem xa_72 : xAr 72 0 9 := ⟨⟨by decide, by decide⟩, rfl, rfl, rfl⟩
theorem xa_73 : xAr 73 0 9 := ⟨⟨by decide, by decide⟩, rfl, rfl, rfl⟩
theorem xa_74 : xAr 74 0 24 := ⟨⟨by decide, by decide⟩, rfl, rfl, rfl⟩
theorem xo_75 : xk 75 = 2 := rfl
theorem xi_75 : xIn 75 := ⟨by decide, by decide⟩
theorem xa_76 : xAr 76 0 9 := ⟨⟨by decide, by decide⟩, rfl, rfl, rfl⟩
theorem xa_77 : xAr 77 0 9 := ⟨⟨by decide, by decide⟩, rfl, rfl, rfl⟩
theorem xa_78 : xAr 78 0 9 := ⟨⟨by decide, by decide⟩, rfl, rfl, rfl⟩
theorem xa_79 : xAr 79 0 24 := ⟨⟨by decide, by decide⟩, rfl, rfl, rfl⟩
theorem xo_80 : xk 80 = 2 := rfl
theorem xi_80 : xIn 80 := ⟨by decide, by decide⟩
theorem xa_81 : xAr 81 0 9 := ⟨⟨by decide, by decide⟩, rfl, rfl, rfl⟩
theorem xa_82 : xAr 82 0 9 := ⟨⟨by decide, by decide⟩, rfl, rfl, rfl⟩
theorem xa_83 : xAr 83 0 9 := ⟨⟨by decide, by decide⟩, rfl, rfl, rfl⟩
theorem xa_84 : xAr 84 0 24 := ⟨⟨by decide, by decide⟩, rfl, rfl, rfl⟩
theorem xo_85 : xk 85 = 2 := rfl
theorem xi_85 : xIn 85 := ⟨by decide, by decide⟩
theorem xa_86 : xAr 86 0 9 := ⟨⟨by decide, by decide⟩, rfl, rfl, rfl⟩
theorem xa_87 : xAr 87 0 9 := ⟨⟨by decide, by decide⟩, rfl, rfl, rfl⟩
theorem xa_88 : xAr 88 0 9 := ⟨⟨by decide, by decide⟩, rfl, rfl, rfl⟩
theorem xa_89 : xAr 89 0 24 := ⟨⟨by decide, by decide⟩, rfl, rfl, rfl⟩
theorem xo_90 : xk 90 = 0 := rfl
theorem xi_90 : xIn 90 := ⟨by decide, by decide⟩
theorem xo_91 : xk 91 = 20 := rfl
theorem xi_91 : xIn 91 := ⟨by decide, by decide⟩
theorem xa_92 : xAr 92 0 648 := ⟨⟨by decide, by decide⟩, rfl, rfl, rfl⟩
theorem xa_93 : xAr 93 0 648 := ⟨⟨by decide, by decide⟩, rfl, rfl, rfl⟩
theorem xo_94 : xk 94 = 2 := rfl
theorem xi_94 : xIn 94 := ⟨by decide, by decide⟩
theorem xa_95 : xAr 95 0 9 := ⟨⟨by decide, by decide⟩, rfl, rfl, rfl⟩
theorem xa_96 : xAr 96 0 9 := ⟨⟨by decide, by decide⟩, rfl, rfl, rfl⟩
theorem xa_97 : xAr 97 0 9 := ⟨⟨by decide, by decide⟩, rfl, rfl, rfl⟩
theorem xa_98 : xAr 98 0 24 := ⟨⟨by decide, by decide⟩, rfl, rfl, rfl⟩
theorem xo_99 : xk 99 = 2 := rfl
theorem xi_99 : xIn 99 := ⟨by decide, by decide⟩
theorem xa_100 : xAr 100 0 9 := ⟨⟨by decide, by decide⟩, rfl, rfl, rfl⟩
theorem xa_101 : xAr 101 0 9 := ⟨⟨by decide, by decide⟩, rfl, rfl, rfl⟩
theorem xa_102 : xAr 102 0 9 := ⟨⟨by decide, by decide⟩, rfl, rfl, rfl⟩
theorem xa_103 : xAr 103 0 24 := ⟨⟨by decide, by decide⟩, rfl, rfl, rfl⟩
theorem xo_104 : xk 104 = 2 := rfl
theorem xi_104 : xIn 104 := ⟨by decide, by decide⟩
theorem xa_105 : xAr 105 0 9 := ⟨⟨by decide, by decide⟩, rfl, rfl, rfl⟩
theorem xa_106 : xAr 106 0 9 := ⟨⟨by decide, by decide⟩, rfl, rfl, rfl⟩
theorem xa_107 : xAr 107 0 9 := ⟨⟨by decide, by decide⟩, rfl, rfl, rfl⟩
theorem xa_108 : xAr 108 0 24 := ⟨⟨by decide, by decide⟩, rfl, rfl, rfl⟩
theorem xo_109 : xk 109 = 2 := rfl
theorem xi_109 : xIn 109 := ⟨by decide, by decide⟩
theorem xa_110 : xAr 110 0 9 := ⟨⟨by decide, by decide⟩, rfl, rfl, rfl⟩
theorem xa_111 : xAr 111 0 9 := ⟨⟨by decide, by decide⟩, rfl, rfl, rfl⟩
theorem xa_112 : xAr 112 0 9 := ⟨⟨by decide, by decide⟩, rfl, rfl, rfl⟩
theorem xa_113 : xAr 113 0 24 := ⟨⟨by decide, by decide⟩, rfl, rfl, rfl⟩
theorem xo_114 : xk 114 = 6 := rfl
theorem xi_114 : xIn 114 := ⟨by decide, by decide⟩
theorem xa_115 : xAr 115 0 64 := ⟨⟨by decide, by decide⟩, rfl, rfl, rfl⟩
theorem xo_116 : xk 116 = 6 := rfl
theorem xi_116 : xIn 116 := ⟨by decide, by decide⟩
theorem xa_117 : xAr 117 0 64 := ⟨⟨by decide, by decide⟩, rfl, rfl, rfl⟩
theorem xo_118 : xk 118 = 10 := rfl
theorem xi_118 : xIn 118 := ⟨by decide, by decide⟩
theorem xa_119 : xAr 119 0 32 := ⟨⟨by decide, by decide⟩, rfl, rfl, rfl⟩
theorem xa_120 : xAr 120 0 32 := ⟨⟨by decide, by decide⟩, rfl, rfl, rfl⟩
theorem xa_121 : xAr 121 0 32 := ⟨⟨by decide, by decide⟩, rfl, rfl, rfl⟩
theorem xa_122 : xAr 122 0 32 := ⟨⟨by decide, by decide⟩, rfl, rfl, rfl⟩
theorem xo_123 : xk 123 = 6 := rfl
theorem xi_123 : xIn 123 := ⟨by decide, by decide⟩
theorem xa_124 : xAr 124 0 600 := ⟨⟨by decide, by decide⟩, rfl, rfl, rfl⟩
theorem xo_125 : xk 125 = 6 := rfl
theorem xi_125 : xIn 125 := ⟨by decide, by decide⟩
theorem xa_126 : xAr 126 0 32 := ⟨⟨by decide, by decide⟩, rfl, rfl, rfl⟩
theorem xo_127 : xk 127 = 3 := rfl
theorem xi_127 : xIn 127 := ⟨by decide, by decide⟩
theorem xo_128 : xk 128 = 21 := rfl
theorem xi_128 : xIn 128 := ⟨by decide, by decide⟩
theorem xa_129 : xAr 129 0 6 := ⟨⟨by decide, by decide⟩, rfl, rfl, rfl⟩
theorem xo_130 : xk 130 = 10 := rfl
theorem xi_130 : xIn 130 := ⟨by decide, by decide⟩
theorem xa_131 : xAr 131 0 32 := ⟨⟨by decide, by decide⟩, rfl, rfl, rfl⟩
theorem xa_132 : xAr 132 0 32 := ⟨⟨by decide, by decide⟩, rfl, rfl, rfl⟩
theorem xa_133 : xAr 133 0 32 := ⟨⟨by decide, by decide⟩, rfl, rfl, rfl⟩
theorem xa_134 : xAr 134 0 32 := ⟨⟨by decide, by decide⟩, rfl, rfl, rfl⟩
theorem xo_135 : xk 135 = 10 := rfl
theorem xi_135 : xIn 135 := ⟨by decide, by decide⟩
theorem xa_136 : xAr 136 0 32 := ⟨⟨by decide, by decide⟩, rfl, rfl, rfl⟩
theorem xa_137 : xAr 137 0 32 := ⟨⟨by decide, by decide⟩, rfl, rfl, rfl⟩
theorem xa_138 : xAr 138 0 32 := ⟨⟨by decide, by decide⟩, rfl, rfl, rfl⟩
theorem xa_139 : xAr 139 0 32 := ⟨⟨by decide, by decide⟩, rfl, rfl, rfl⟩
theorem xo_140 : xk 140 = 10 := rfl
theorem xi_140 : xIn 140 := ⟨by decide, by decide⟩
theorem xa_141 : xAr 141 0 32 := ⟨⟨by decide, by decide⟩, rfl, rfl, rfl⟩
theorem xa_142 : xAr 142 0 32 := ⟨⟨by decide, by decide⟩, rfl, rfl, rfl⟩
theorem xa_143 : xAr 143 0 32 := ⟨⟨by decide, by decide⟩, rfl, rfl, rfl⟩
theorem xa_144 : xAr 144 0 32 := ⟨⟨by decide, by decide⟩, rfl, rfl, rfl⟩
theorem xo_145 : xk 145 = 10 := rfl
theorem xi_145 : xIn 145 := ⟨by decide, by decide⟩
theorem xa_146 : xAr 146 0 32 := ⟨⟨by decide, by decide⟩, rfl, rfl, rfl⟩
theorem xa_147 : xAr 147 0 32 := ⟨⟨by decide, by decide⟩, rfl, rfl, rfl⟩
theorem xa_148 : xAr 148 0 32 := ⟨⟨by decide, by decide⟩, rfl, rfl, rfl⟩
theorem xa_149 : xAr 149 0 32 := ⟨⟨by decide, by decide⟩, rfl, rfl, rfl⟩
theorem xo_150 : xk 150 = 10 := rfl
theorem xi_150 : xIn 150 := ⟨by decide, by decide⟩
theorem xa_151 : xAr 151 0 32 := ⟨⟨by decide, by decide⟩, rfl, rfl, rfl⟩
theorem xa_152 : xAr 152 0 32 := ⟨⟨by decide, by decide⟩, rfl, rfl, rfl⟩
theorem xa_153 : xAr 153 0 32 := ⟨⟨by decide, by decide⟩, rfl, rfl, rfl⟩
theorem xa_154 : xAr 154 0 32 := ⟨⟨by decide, by decide⟩, rfl, rfl, rfl⟩
theorem xo_155 : xk 155 = 10 := rfl
theorem xi_155 : xIn 155 := ⟨by decide, by decide⟩
theorem xa_156 : xAr 156 0 32 := ⟨⟨by decide, by decide⟩, rfl, rfl, rfl⟩
theorem xa_157 : xAr 157 0 32 := ⟨⟨by decide, by decide⟩, rfl, rfl, rfl⟩
theorem xa_158 : xAr 158 0 32 := ⟨⟨by decide, by decide⟩, rfl, rfl, rfl⟩
theorem xa_159 : xAr 159 0 32 := ⟨⟨by decide, by decide⟩, rfl, rfl, rfl⟩
theorem xo_160 : xk 160 = 4 := rfl
theorem xi_160 : xIn 160 := ⟨by decide, by decide⟩
theorem xa_161 : xAr 161 0 400 := ⟨⟨by decide, by decide⟩, rfl, rfl, rfl⟩
theorem xa_162 : xAr 162 0 401 := ⟨⟨by decide, by decide⟩, rfl, rfl, rfl⟩
theorem xa_163 : xAr 163 0 401 := ⟨⟨by decide, by decide⟩, rfl, rfl, rfl⟩
theorem xa_164 : xAr 164 0 401 := ⟨⟨by decide, by decide⟩, rfl, rfl, rfl⟩
theorem xo_165 : xk 165 = 2 := rfl
theorem xi_165 : xIn 165 := ⟨by decide, by decide⟩
theorem xa_166 : xAr 166 0 9 := ⟨⟨by decide, by decide⟩, rfl, rfl, rfl⟩
theorem xa_167 : xAr 167 0 9 := ⟨⟨by decide, by decide⟩, rfl, rfl, rfl⟩
theorem xa_168 : xAr 168 0 9 := ⟨⟨by decide, by decide⟩, rfl, rfl, rfl⟩
theorem xa_169 : xAr 169 0 24 := ⟨⟨by decide, by decide⟩, rfl, rfl, rfl⟩
theorem xo_170 : xk 170 = 6 := rfl
theorem xi_170 : xIn 170 := ⟨by decide, by decide⟩
theorem xa_171 : xAr 171 0 64 := ⟨⟨by decide, by decide⟩, rfl, rfl, rfl⟩
theorem xo_172 : xk 172 = 9 := rfl
theorem xi_172 : xIn 172 := ⟨by decide, by decide⟩
theorem xo_173 : xk 173 = 7 := rfl
theorem xi_173 : xIn 173 := ⟨by decide, by decide⟩
theorem xa_174 : xAr 174 0 32 := ⟨⟨by decide, by decide⟩, rfl, rfl, rfl⟩
theorem xa_175 : xAr 175 0 32 := ⟨⟨by decide, by decide⟩, rfl, rfl, rfl⟩
theorem xa_176 : xAr 176 0 32 := ⟨⟨by decide, by decide⟩, rfl, rfl, rfl⟩
theorem xo_177 : xk 177 = 7 := rfl
theorem xi_177 : xIn 177 := ⟨by decide, by decide⟩
theorem xa_178 : xAr 178 0 32 := ⟨⟨by decide, by decide⟩, rfl, rfl, rfl⟩
theorem xa_179 : xAr 179 0 32 := ⟨⟨by decide, by decide⟩, rfl, rfl, rfl⟩
theorem xa_180 : xAr 180 0 32 := ⟨⟨by decide, by decide⟩, rfl, rfl, rfl⟩
theorem xo_181 : xk 181 = 0 := rfl
theorem xi_181 : xIn 181 := ⟨by decide, by decide⟩
theorem xo_182 : xk 182 = 20 := rfl
theorem xi_182 : xIn 182 := ⟨by decide, by decide⟩
theorem xa_183 : xAr 183 0 648 := ⟨⟨by decide, by decide⟩, rfl, rfl, rfl⟩
theorem xa_184 : xAr 184 0 648 := ⟨⟨by decide, by decide⟩, rfl, rfl, rfl⟩
theorem xo_185 : xk 185 = 2 := rfl
theorem xi_185 : xIn 185 := ⟨by decide, by decide⟩
theorem xa_186 : xAr 186 0 9 := ⟨⟨by decide, by decide⟩, rfl, rfl, rfl⟩
theorem xa_187 : xAr 187 0 9 := ⟨⟨by decide, by decide⟩, rfl, rfl, rfl⟩
theorem xa_188 : xAr 188 0 9 := ⟨⟨by decide, by decide⟩, rfl, rfl, rfl⟩
theorem xa_189 : xAr 189 0 24 := ⟨⟨by decide, by decide⟩, rfl, rfl, rfl⟩
theorem xo_190 : xk 190 = 2 := rfl
theorem xi_190 : xIn 190 := ⟨by decide, by decide⟩
theorem xa_191 : xAr 191 0 9 := ⟨⟨by decide, by decide⟩, rfl, rfl, rfl⟩
theorem xa_192 : xAr 192 0 9 := ⟨⟨by decide, by decide⟩, rfl, rfl, rfl⟩
theorem xa_193 : xAr 193 0 9 := ⟨⟨by decide, by decide⟩, rfl, rfl, rfl⟩
theorem xa_194 : xAr 194 0 24 := ⟨⟨by decide, by decide⟩, rfl, rfl, rfl⟩
theorem xo_195 : xk 195 = 2 := rfl
theorem xi_195 : xIn 195 := ⟨by decide, by decide⟩
theorem xa_196 : xAr 196 0 9 := ⟨⟨by decide, by decide⟩, rfl, rfl, rfl⟩
theorem xa_197 : xAr 197 0 9 := ⟨⟨by decide, by decide⟩, rfl, rfl, rfl⟩
theorem xa_198 : xAr 198 0 9 := ⟨⟨by decide, by decide⟩, rfl, rfl, rfl⟩
theorem xa_199 : xAr 199 0 24 := ⟨⟨by decide, by decide⟩, rfl, rfl, rfl⟩
theorem xo_200 : xk 200 = 2 := rfl
theorem xi_200 : xIn 200 := ⟨by decide, by decide⟩
theorem xa_201 : xAr 201 0 9 := ⟨⟨by decide, by decide⟩, rfl, rfl, rfl⟩
theorem xa_202 : xAr 202 0 9 := ⟨⟨by decide, by decide⟩, rfl, rfl, rfl⟩
theorem xa_203 : xAr 203 0 9 := ⟨⟨by decide, by decide⟩, rfl, rfl, rfl⟩
theorem xa_204 : xAr 204 0 24 := ⟨⟨by decide, by decide⟩, rfl, rfl, rfl⟩
theorem xa_205 : xAr 205 0 648 := ⟨⟨by decide, by decide⟩, rfl, rfl, rfl⟩
theorem xo_206 : xk 206 = 5 := rfl
theorem xi_206 : xIn 206 := ⟨by decide, by decide⟩
theorem xo_207 : xk 207 = 10 := rfl
theorem xi_207 : xIn 207 := ⟨by decide, by decide⟩
theorem xa_208 : xAr 208 0 32 := ⟨⟨by decide, by decide⟩, rfl, rfl, rfl⟩
theorem xa_209 : xAr 209 0 32 := ⟨⟨by decide, by decide⟩, rfl, rfl, rfl⟩
theorem xa_210 : xAr 210 0 32 := ⟨⟨by decide, by decide⟩, rfl, rfl, rfl⟩
theorem xa_211 : xAr 211 0 32 := ⟨⟨by decide, by decide⟩, rfl, rfl, rfl⟩
theorem xa_212 : xAr 212 1 2002 := ⟨⟨by decide, by decide⟩, rfl, rfl, rfl⟩
theorem xa_213 : xAr 213 1 2002 := ⟨⟨by decide, by decide⟩, rfl, rfl, rfl⟩
theorem xa_214 : xAr 214 0 1024 := ⟨⟨by decide, by decide⟩, rfl, rfl, rfl⟩
theorem xa_215 : xAr 215 0 2001 := ⟨⟨by decide, by decide⟩, rfl, rfl, rfl⟩
theorem xo_216 : xk 216 = 1 := rfl
theorem xi_216 : xIn 216 := ⟨by decide, by decide⟩
theorem xa_217 : xAr 217 1 72 := ⟨⟨by decide, by decide⟩, rfl, rfl, rfl⟩
theorem xa_218 : xAr 218 1 72 := ⟨⟨by decide, by decide⟩, rfl, rfl, rfl⟩
theorem xa_219 : xAr 219 0 32 := ⟨⟨by decide, by decide⟩, rfl, rfl, rfl⟩
theorem pgx_d2 : (List.range 218).all (fun i => (List.range 218).all (fun j => !(xk (i + 2) == 2) || !(xk (j + 2) == 2) || (i == j) || decide (i + 4 < j) || decide (j + 4 < i))) = true := by decide +kernel
theorem pgx_d {a b : Nat} (ha : 2 ≤ a) (hb : 2 ≤ b) (h1 : xk a = 2) (h2 : xk b = 2) (hn : a ≠ b) : a + 4 < b ∨ b + 4 < a := by
  have a2 := (pgx_in ha h1).2
  have b2 := (pgx_in hb h2).2
  have h := List.all_eq_true.mp (List.all_eq_true.mp pgx_d2 (a - 2) (List.mem_range.mpr (by omega))) (b - 2) (List.mem_range.mpr (by omega))
  rw [show a - 2 + 2 = a by omega, show b - 2 + 2 = b by omega, h1, h2] at h
  simp only [beq_self_eq_true, Bool.not_true, Bool.false_or, Bool.or_eq_true, decide_eq_true_eq, beq_iff_eq] at h
  omega
theorem wlx_d2 : (List.range 218).all (fun i => (List.range 218).all (fun j => !(xk (i + 2) == 10) || !(xk (j + 2) == 10) || (i == j) || decide (i + 4 < j) || decide (j + 4 < i))) = true := by decide +kernel
theorem wlx_d {a b : Nat} (ha : 2 ≤ a) (hb : 2 ≤ b) (h1 : xk a = 10) (h2 : xk b = 10) (hn : a ≠ b) : a + 4 < b ∨ b + 4 < a := by
  have a2 := (wlx_in ha h1).2
  have b2 := (wlx_in hb h2).2
  have h := List.all_eq_true.mp (List.all_eq_true.mp wlx_d2 (a - 2) (List.mem_range.mpr (by omega))) (b - 2) (List.mem_range.mpr (by omega))
  rw [show a - 2 + 2 = a by omega, show b - 2 + 2 = b by omega, h1, h2] at h
  simp only [beq_self_eq_true, Bool.not_true, Bool.false_or, Bool.or_eq_true, decide_eq_true_eq, beq_iff_eq] at h
  omega
theorem rux_d2 : (List.range 218).all (fun i => (List.range 218).all (fun j => !(xk (i + 2) == 7) || !(xk (j + 2) == 7) || (i == j) || decide (i + 3 < j) || decide (j + 3 < i))) = true := by decide +kernel
theorem rux_d {a b : Nat} (ha : 2 ≤ a) (hb : 2 ≤ b) (h1 : xk a = 7) (h2 : xk b = 7) (hn : a ≠ b) : a + 3 < b ∨ b + 3 < a := by
  have a2 := (rux_in ha h1).2
  have b2 := (rux_in hb h2).2
  have h := List.all_eq_true.mp (List.all_eq_true.mp rux_d2 (a - 2) (List.mem_range.mpr (by omega))) (b - 2) (List.mem_range.mpr (by omega))
  rw [show a - 2 + 2 = a by omega, show b - 2 + 2 = b by omega, h1, h2] at h
  simp only [beq_self_eq_true, Bool.not_true, Bool.false_or, Bool.or_eq_true, decide_eq_true_eq, beq_iff_eq] at h
  omega
theorem bkx_d2 : (List.range 218).all (fun i => (List.range 218).all (fun j => !(xk (i + 2) == 0) || !(xk (j + 2) == 0) || (i == j) || decide (i + 23 < j) || decide (j + 23 < i))) = true := by decide +kernel
theorem bkx_d {a b : Nat} (ha : 2 ≤ a) (hb : 2 ≤ b) (h1 : xk a = 0) (h2 : xk b = 0) (hn : a ≠ b) : a + 23 < b ∨ b + 23 < a := by
  have a2 := (bkx_in ha h1).2
  have b2 := (bkx_in hb h2).2
  have h := List.all_eq_true.mp (List.all_eq_true.mp bkx_d2 (a - 2) (List.mem_range.mpr (by omega))) (b - 2) (List.mem_range.mpr (by omega))
  rw [show a - 2 + 2 = a by omega, show b - 2 + 2 = b by omega, h1, h2] at h
  simp only [beq_self_eq_true, Bool.not_true, Bool.false_or, Bool.or_eq_true, decide_eq_true_eq, beq_iff_eq] at h
  omega
theorem rwx_d2 : (List.range 218).all (fun i => (List.range 218).all (fun j => !(xk (i + 2) == 6) || !(xk (j + 2) == 6) || (i == j) || decide (i + 1 < j) || decide (j + 1 < i))) = true := by decide +kernel
theorem rwx_d {a b : Nat} (ha : 2 ≤ a) (hb : 2 ≤ b) (h1 : xk a = 6) (h2 : xk b = 6) (hn : a ≠ b) : a + 1 < b ∨ b + 1 < a := by
  have a2 := (rwx_in ha h1).2
  have b2 := (rwx_in hb h2).2
  have h := List.all_eq_true.mp (List.all_eq_true.mp rwx_d2 (a - 2) (List.mem_range.mpr (by omega))) (b - 2) (List.mem_range.mpr (by omega))
  rw [show a - 2 + 2 = a by omega, show b - 2 + 2 = b by omega, h1, h2] at h
  simp only [beq_self_eq_true, Bool.not_true, Bool.false_or, Bool.or_eq_true, decide_eq_true_eq, beq_iff_eq] at h
  omega
