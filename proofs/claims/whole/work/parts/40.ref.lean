/-! ===== THE REFERENCE'S STATE: the object at m, its arrays at m + 1 .. m + 37; f: its numbers by slot, g: its arrays' contents ===== -/
def rfO (m : Nat) (f : Nat → Int) : List qA := [qI (f 0), qI (f 1), qI (f 2), qI (f 3), qI (f 4), qI (f 5), qI (f 6), qI (f 7), qR (m + 1), qR (m + 2), qR (m + 3), qR (m + 4), qR (m + 5), qR (m + 6), qR (m + 7), qR (m + 8), qR (m + 9), qR (m + 10), qI (f 18), qI (f 19), qI (f 20), qR (m + 11), qR (m + 12), qR (m + 13), qR (m + 14), qI (f 25), qR (m + 15), qI (f 27), qR (m + 16), qR (m + 17), qR (m + 18), qR (m + 19), qR (m + 20), qR (m + 21), qR (m + 22), qR (m + 23), qR (m + 24), qI (f 37), qI (f 38), qI (f 39), qI (f 40), qR (m + 25), qR (m + 26), qR (m + 27), qR (m + 28), qR (m + 29), qR (m + 30), qR (m + 31), qI (f 48), qR (m + 32), qR (m + 33), qR (m + 34), qR (m + 35), qR (m + 36), qR (m + 37)]
def rT (k : Nat) : Nat := match k with
  | 31 => 2
  | 32 => 1
  | 33 => 1
  | 34 => 1
  | _ => 0
def rN (k : Nat) : Nat := match k with
  | 1 => 400
  | 2 => 384
  | 3 => 384
  | 4 => 96
  | 5 => 4
  | 6 => 4
  | 7 => 64
  | 8 => 64
  | 9 => 16
  | 10 => 16
  | 11 => 167
  | 12 => 167
  | 13 => 600
  | 14 => 1002
  | 15 => 32
  | 16 => 167
  | 17 => 4
  | 18 => 4
  | 19 => 16
  | 20 => 600
  | 21 => 384
  | 22 => 384
  | 23 => 64
  | 24 => 32
  | 25 => 648
  | 26 => 648
  | 27 => 648
  | 28 => 32
  | 29 => 32
  | 30 => 32
  | 31 => 96
  | 32 => 81
  | 33 => 81
  | 34 => 8004
  | 35 => 384
  | 36 => 4
  | _ => 32
def gup (g : Nat → Nat → Int) (k : Nat) (F : Nat → Int) : Nat → Nat → Int := fun j => if j = k then F else g j
def rput (h : qH) (m : Nat) (f : Nat → Int) (g : Nat → Nat → Int) : qH := (h.1, h.2.1, fun a => if a = m then qOb 12 (rfO m f) else if m < a ∧ a ≤ m + 37 then qAr (rT (a - m)) (rN (a - m)) (g (a - m)) else h.2.2 a)
section RefState
variable {h : qH} {m : Nat} {f : Nat → Int} {g : Nat → Nat → Int}
theorem rput_o : (rput h m f g).2.2 m = qOb 12 (rfO m f) := by simp [rput]
theorem rput_a (k : Nat) (h1 : 1 ≤ k) (h2 : k ≤ 37) : (rput h m f g).2.2 (m + k) = qAr (rT k) (rN k) (g k) := by
  simp only [rput]
  rw [if_neg (by omega), if_pos (by omega), show m + k - m = k by omega]
theorem rput_a2 (k : Nat) {t n : Nat} {F : Nat → Int} (ht : rT k = t) (hn : rN k = n) (hF : g k = F) (h1 : 1 ≤ k) (h2 : k ≤ 37) : (rput h m f g).2.2 (m + k) = qAr t n F := by
  rw [rput_a k h1 h2, ht, hn, hF]
theorem rput_x {a : Nat} (ha : a < m ∨ m + 37 < a) : (rput h m f g).2.2 a = h.2.2 a := by
  simp only [rput]
  rw [if_neg (by omega), if_neg (by omega)]
theorem rput_sf {f' : Nat → Int} {fs : List qA} (e : fs = rfO m f') : qset (rput h m f g) m (qOb 12 fs) = rput h m f' g := by
  subst e
  unfold qset rput
  congr 2
  funext q
  by_cases hq : q = m
  · rw [if_pos hq, if_pos hq]
  · simp only [if_neg hq]
theorem rput_sa (k : Nat) {t n : Nat} {F : Nat → Int} (ht : rT k = t) (hn : rN k = n) (h1 : 1 ≤ k) (h2 : k ≤ 37) : qset (rput h m f g) (m + k) (qAr t n F) = rput h m f (gup g k F) := by
  subst ht; subst hn
  unfold qset rput
  congr 2
  funext q
  by_cases hq : q = m + k
  · subst hq
    rw [if_pos rfl, if_neg (by omega), if_pos (by omega), show m + k - m = k by omega]
    simp [gup]
  · rw [if_neg hq]
    by_cases hm : q = m
    · simp only [if_pos hm]
    · simp only [if_neg hm]
      by_cases hr : m < q ∧ q ≤ m + 37
      · simp only [if_pos hr]
        have : q - m ≠ k := by omega
        simp [gup, this]
      · simp only [if_neg hr]
theorem rput_n : (rput h m f g).1 = h.1 := rfl
theorem rput_put {f2 : Nat → Int} {g2 : Nat → Nat → Int} : rput (rput h m f g) m f2 g2 = rput h m f2 g2 := by
  unfold rput
  congr 2
  funext q
  by_cases hm : q = m
  · simp only [if_pos hm]
  · simp only [if_neg hm]
    by_cases hr : m < q ∧ q ≤ m + 37
    · simp only [if_pos hr]
    · simp only [if_neg hr]
theorem gup_gup (k : Nat) (F F2 : Nat → Int) : gup (gup g k F) k F2 = gup g k F2 := by
  funext j
  unfold gup
  by_cases h : j = k
  · rw [if_pos h, if_pos h]
  · rw [if_neg h, if_neg h, if_neg h]
theorem gup_eq (k : Nat) (F : Nat → Int) : gup g k F k = F := by simp [gup]
theorem gup_ne {k j : Nat} {F : Nat → Int} (hj : j ≠ k) : gup g k F j = g j := by simp [gup, hj]
theorem gup_self {k : Nat} {F : Nat → Int} (e : g k = F) : gup g k F = g := by
  funext j
  unfold gup
  by_cases h : j = k
  · rw [if_pos h, h, e]
  · rw [if_neg h]
theorem gup_comm {a b : Nat} {A B : Nat → Int} (hab : a ≠ b) : gup (gup g a A) b B = gup (gup g b B) a A := by
  funext j
  unfold gup
  by_cases h1 : j = a
  · subst h1
    rw [if_neg hab, if_pos rfl, if_pos rfl]
  · by_cases h2 : j = b
    · rw [if_pos h2, if_neg h1, if_pos h2]
    · rw [if_neg h2, if_neg h1, if_neg h1, if_neg h2]
end RefState
theorem rput_cg {h : qH} {m : Nat} {f f' : Nat → Int} {g g' : Nat → Nat → Int} (e1 : f = f') (e2 : g = g') : rput h m f g = rput h m f' g' := by rw [e1, e2]
theorem gup_cg {g g' : Nat → Nat → Int} {k : Nat} {F F' : Nat → Int} (e1 : g = g') (e2 : F = F') : gup g k F = gup g' k F' := by rw [e1, e2]
theorem qup_cg {f f' : Nat → Int} {k : Nat} {v v' : Int} (e1 : f = f') (e2 : v = v') : qup f k v = qup f' k v' := by rw [e1, e2]
theorem qup_self {f : Nat → Int} {k : Nat} {v : Int} (e : f k = v) : qup f k v = f := by
  funext j
  unfold qup
  by_cases h : j = k
  · rw [if_pos h, h, e]
  · rw [if_neg h]
theorem qup_qup (f : Nat → Int) (k : Nat) (a b : Int) : qup (qup f k a) k b = qup f k b := by
  funext j
  unfold qup
  by_cases h : j = k
  · rw [if_pos h, if_pos h]
  · rw [if_neg h, if_neg h, if_neg h]
theorem qup_comm {f : Nat → Int} {a b : Nat} {A B : Int} (hab : a ≠ b) : qup (qup f a A) b B = qup (qup f b B) a A := by
  funext j
  unfold qup
  by_cases h1 : j = a
  · subst h1
    rw [if_neg hab, if_pos rfl, if_pos rfl]
  · by_cases h2 : j = b
    · rw [if_pos h2, if_neg h1, if_pos h2]
    · rw [if_neg h2, if_neg h1, if_neg h1, if_neg h2]
