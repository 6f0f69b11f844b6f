/-! ===== THE OWN MACHINE'S ROWS, by program (wip/gen/rules.py) ===== -/
theorem r32_in {x : Int32} : R32 x.toInt := ⟨x.le_toInt, by have := x.toInt_lt; omega⟩
theorem r64_in {x : Int64} : R64 x.toInt := ⟨x.le_toInt, by have := x.toInt_lt; omega⟩
theorem r32_to {z : Int} (h : R32 z) : (Int32.ofInt z).toInt = z := Int32.toInt_ofInt_of_le h.1 (by have := h.2; omega)
theorem r64_to {z : Int} (h : R64 z) : (Int64.ofInt z).toInt = z := Int64.toInt_ofInt_of_le h.1 (by have := h.2; omega)
theorem r32_lt {x y : Int} (hx : R32 x) (hy : R32 y) : Int32.ofInt x < Int32.ofInt y ↔ x < y := by rw [Int32.lt_iff_toInt_lt, r32_to hx, r32_to hy]
theorem r32_le {x y : Int} (hx : R32 x) (hy : R32 y) : Int32.ofInt x ≤ Int32.ofInt y ↔ x ≤ y := by rw [Int32.le_iff_toInt_le, r32_to hx, r32_to hy]
theorem r32_eq {x y : Int} (hx : R32 x) (hy : R32 y) : Int32.ofInt x = Int32.ofInt y ↔ x = y := by rw [← Int32.toInt_inj, r32_to hx, r32_to hy]
theorem r32_0 : R32 0 := ⟨by decide, by decide⟩
theorem r32_nat {z : Int} (h : R32 z) : (Int32.ofInt z).toNatClampNeg = z.toNat := Int32.toNatClampNeg_ofInt_of_le h.1 (by have := h.2; omega)
theorem r32_in_of {i : Int} {n : Nat} (hi : R32 i) (h0 : 0 ≤ i) (h1 : i < n) : vp_in (Int32.ofInt i) n := by
  intro h
  rcases h with h | h
  · rw [show (0 : Int32) = Int32.ofInt 0 from rfl, r32_lt hi r32_0] at h
    omega
  · rw [r32_nat hi] at h
    omega
theorem r64_lt {x y : Int} (hx : R64 x) (hy : R64 y) : Int64.ofInt x < Int64.ofInt y ↔ x < y := by rw [Int64.lt_iff_toInt_lt, r64_to hx, r64_to hy]
theorem r64_eq {x y : Int} (hx : R64 x) (hy : R64 y) : Int64.ofInt x = Int64.ofInt y ↔ x = y := by rw [← Int64.toInt_inj, r64_to hx, r64_to hy]
def qAnd (x y : Int) : Int := (Int32.ofInt x &&& Int32.ofInt y).toInt
def qOr (x y : Int) : Int := (Int32.ofInt x ||| Int32.ofInt y).toInt
def qXor (x y : Int) : Int := (Int32.ofInt x ^^^ Int32.ofInt y).toInt
def qShl (x y : Int) : Int := (Int32.ofInt x <<< (Int32.ofInt y &&& 31)).toInt
def qShr (x y : Int) : Int := (Int32.ofInt x >>> (Int32.ofInt y &&& 31)).toInt
def qUshr (x y : Int) : Int := ((Int32.ofInt x).toUInt32 >>> ((Int32.ofInt y).toUInt32 &&& Int32.toUInt32 31)).toInt32.toInt
def qLor (x y : Int) : Int := (Int64.ofInt x ||| Int64.ofInt y).toInt
def qLxor (x y : Int) : Int := (Int64.ofInt x ^^^ Int64.ofInt y).toInt
def qLmul (x y : Int) : Int := (Int64.ofInt x * Int64.ofInt y).toInt
def qLadd (x y : Int) : Int := (Int64.ofInt x + Int64.ofInt y).toInt
def qLshl (x y : Int) : Int := (Int64.ofInt x <<< ((Int32.ofInt y).toInt64 &&& 63)).toInt
def qLushr (x y : Int) : Int := ((Int64.ofInt x).toUInt64 >>> ((Int32.ofInt y).toInt64.toUInt64 &&& Int64.toUInt64 63)).toInt64.toInt
def qL2i (x : Int) : Int := (Int64.ofInt x).toInt32.toInt
def qI2c (x : Int) : Int := ((Int32.ofInt x).toUInt32 % 65536).toInt32.toInt
theorem r32_div {x y : Int} (hx : R32 x) (hy : R32 y) (h0 : 0 < y) : Int32.ofInt x / Int32.ofInt y = Int32.ofInt (x.tdiv y) ∧ R32 (x.tdiv y) := by
  have hb : (x.tdiv y).natAbs ≤ x.natAbs := by rw [Int.natAbs_tdiv]; exact Nat.div_le_self _ _
  have hne : Int32.ofInt y ≠ -1 := by
    intro e
    have e2 : (Int32.ofInt y).toInt = -1 := by rw [e]; rfl
    rw [r32_to hy] at e2
    omega
  have h1 := Int32.toInt_div_of_ne_right (Int32.ofInt x) (Int32.ofInt y) hne
  rw [r32_to hx, r32_to hy] at h1
  exact ⟨by rw [← h1, Int32.ofInt_toInt], by rw [← h1]; exact r32_in⟩
theorem r32_rem {x y : Int} (hx : R32 x) (hy : R32 y) : Int32.ofInt x - Int32.ofInt x / Int32.ofInt y * Int32.ofInt y = Int32.ofInt (x.tmod y) ∧ R32 (x.tmod y) := by
  have h := rem_toInt (Int32.ofInt x) (Int32.ofInt y)
  rw [r32_to hx, r32_to hy] at h
  exact ⟨by rw [← h, Int32.ofInt_toInt], by rw [← h]; exact r32_in⟩
theorem r32_ne0 {y : Int} (hy : R32 y) (h : y ≠ 0) : ¬ Int32.ofInt y = 0 := by
  intro e
  exact h ((r32_eq hy r32_0).mp e)
theorem qLR_at {G : qG} {n i : Nat} {ls : List qA} {lsA : Array Slot} {v : Int ⊕ Int ⊕ Option Nat} (h : qLR G n ls lsA) (hv : ls[i]? = some (some v)) : lsA[i]? = some (.val (qV G (some v))) := h.2.2.2 i v hv
def qLl (G : qG) (ls : List qA) : List (Nat × Value) := (List.range ls.length).filterMap (fun i => match ls[i]? with | some (some v) => some (i, qV G (some v)) | _ => none)
theorem qLl_mem {G : qG} {ls : List qA} {i : Nat} {w : Value} : (i, w) ∈ qLl G ls ↔ ∃ v, ls[i]? = some (some v) ∧ w = qV G (some v) := by
  unfold qLl
  rw [List.mem_filterMap]
  constructor
  · rintro ⟨j, -, hj⟩
    split at hj
    · rename_i v hv
      injection hj with hj
      injection hj with h1 h2
      subst h1
      exact ⟨v, hv, h2.symm⟩
    · cases hj
  · rintro ⟨v, hv, rfl⟩
    exact ⟨i, List.mem_range.mpr (List.getElem?_eq_some_iff.mp hv).1, by rw [hv]⟩
theorem qLR_has {G : qG} {n : Nat} {ls : List qA} {lsA : Array Slot} (h : qLR G n ls lsA) : lv_has lsA n (qLl G ls) := by
  refine ⟨h.1, h.2.1, fun q hq => ?_⟩
  obtain ⟨i, w⟩ := q
  obtain ⟨v, hv, rfl⟩ := qLl_mem.mp hq
  exact h.2.2.2 i v hv
/-- a store: what half a long it broke is forgotten -/
def qSt (ls : List qA) (i : Nat) (v : qA) : List qA := match i with
  | 0 => ls.set 0 v
  | i + 1 => match ls[i]? with
    | some (some (.inr (.inl _))) => (ls.set i none).set (i + 1) v
    | _ => ls.set (i + 1) v
def qSt2 (ls : List qA) (i : Nat) (v : qA) : List qA := (qSt ls i v).set (i + 1) none
theorem qSt_len (ls : List qA) (i : Nat) (v : qA) : (qSt ls i v).length = ls.length := by
  unfold qSt
  split
  · simp
  · split <;> simp
theorem qSt_at {ls : List qA} {i j : Nat} {v : qA} {w : Int ⊕ Int ⊕ Option Nat} (h : (qSt ls i v)[j]? = some (some w)) : (j = i ∧ v = some w) ∨ (j ≠ i ∧ ls[j]? = some (some w) ∧ ¬ (j + 1 = i ∧ ∃ z, w = .inr (.inl z))) := by
  unfold qSt at h
  split at h
  · rw [List.getElem?_set] at h
    by_cases e : 0 = j
    · rw [if_pos e] at h
      split at h
      · exact Or.inl ⟨e.symm, Option.some.inj h⟩
      · cases h
    · rw [if_neg e] at h
      exact Or.inr ⟨fun q => e q.symm, h, fun q => by omega⟩
  · rename_i k
    split at h
    · rename_i z hz
      rw [List.getElem?_set] at h
      by_cases e : k + 1 = j
      · rw [if_pos e] at h
        split at h
        · exact Or.inl ⟨e.symm, Option.some.inj h⟩
        · cases h
      · rw [if_neg e, List.getElem?_set] at h
        by_cases e2 : k = j
        · rw [if_pos e2] at h
          split at h
          · cases h
          · cases h
        · rw [if_neg e2] at h
          exact Or.inr ⟨fun q => e q.symm, h, fun q => e2 (by omega)⟩
    · rename_i hz
      rw [List.getElem?_set] at h
      by_cases e : k + 1 = j
      · rw [if_pos e] at h
        split at h
        · exact Or.inl ⟨e.symm, Option.some.inj h⟩
        · cases h
      · rw [if_neg e] at h
        refine Or.inr ⟨fun q => e q.symm, h, fun q => ?_⟩
        obtain ⟨q1, z, rfl⟩ := q
        have : j = k := by omega
        subst this
        exact hz z h
theorem qV_cat2 {G : qG} {w : Int ⊕ Int ⊕ Option Nat} (h : (qV G (some w)).category = 2) : ∃ z, w = .inr (.inl z) := by
  rcases w with z | z | _ | z
  · simp [qV, Value.category] at h
  · exact ⟨z, rfl⟩
  · simp [qV, Value.category] at h
  · simp [qV, Value.category] at h
theorem qLR_store {G : qG} {n i : Nat} {ls : List qA} {lsA lsB : Array Slot} {v : Int ⊕ Int ⊕ Option Nat} (h : qLR G n ls lsA) (hB : lv_has lsB n ((i, qV G (some v)) :: (qLl G ls).filter (fun q => !(q.1 == i) && !(q.1 + 1 == i && q.2.category == 2)))) : qLR G n (qSt ls i (some v)) lsB := by
  refine ⟨hB.1, hB.2.1, by rw [qSt_len]; exact h.2.2.1, fun j w hw => ?_⟩
  rcases qSt_at hw with ⟨rfl, e⟩ | ⟨hj, hl, hc⟩
  · cases e
    exact hB.2.2 _ List.mem_cons_self
  · refine hB.2.2 (j, qV G (some w)) (List.mem_cons_of_mem _ (List.mem_filter.mpr ⟨qLl_mem.mpr ⟨w, hl, rfl⟩, ?_⟩))
    simp only [Bool.and_eq_true, Bool.not_eq_true', beq_eq_false_iff_ne, ne_eq, Bool.and_eq_false_imp, beq_iff_eq]
    exact ⟨hj, fun e1 e2 => hc ⟨e1, qV_cat2 e2⟩⟩
theorem qLR_store2 {G : qG} {n i : Nat} {ls : List qA} {lsA lsB : Array Slot} {v : Int ⊕ Int ⊕ Option Nat} (h : qLR G n ls lsA) (hB : lv_has lsB n ((i, qV G (some v)) :: (qLl G ls).filter (fun q => !(q.1 == i) && (!(q.1 == i + 1) && !(q.1 + 1 == i && q.2.category == 2))))) : qLR G n (qSt2 ls i (some v)) lsB := by
  refine ⟨hB.1, hB.2.1, by unfold qSt2; rw [List.length_set, qSt_len]; exact h.2.2.1, fun j w hw => ?_⟩
  unfold qSt2 at hw
  rw [List.getElem?_set] at hw
  by_cases e : i + 1 = j
  · rw [if_pos e] at hw
    split at hw
    · cases hw
    · cases hw
  · rw [if_neg e] at hw
    rcases qSt_at hw with ⟨rfl, e9⟩ | ⟨hj, hl, hc⟩
    · cases e9
      exact hB.2.2 _ List.mem_cons_self
    · refine hB.2.2 (j, qV G (some w)) (List.mem_cons_of_mem _ (List.mem_filter.mpr ⟨qLl_mem.mpr ⟨w, hl, rfl⟩, ?_⟩))
      simp only [Bool.and_eq_true, Bool.not_eq_true', beq_eq_false_iff_ne, ne_eq, Bool.and_eq_false_imp, beq_iff_eq]
      exact ⟨hj, fun q => e q.symm, fun e1 e2 => hc ⟨e1, qV_cat2 e2⟩⟩
theorem qRs_st {ls : List qA} {i : Nat} {v : qA} (h : qRs ls) (hv : qRv v) : qRs (qSt ls i v) := by
  unfold qSt
  split
  · exact qRs_set h hv
  · split
    · exact qRs_set (qRs_set h trivial) hv
    · exact qRs_set h hv
section Rules
variable {M : qM} {pc : Nat} {ls st : List qA} {h hr : qH} {r : Option qA}
theorem z_iconst {n : Int} (hd : decode (qMc M) pc = .ok (.iconst n, 1)) (hn : R32 n) (k : qEx M (pc + 1) ls (qI n :: st) h r hr) : qEx M pc ls (st) h r hr := by
  unfold qEx at *
  refine ⟨k.1, k.2.1, fun G p l e s m args below meth c H locs cells slots mc ms lsA C hH hS hRl hRs hc hs hL => ?_⟩
  obtain ⟨hx, hb, hml, hrt, hown, hlk, hnm, hts, hK, hbs⟩ := id C
  have k2 := k.2.2 G p l e s m args below meth c H locs cells slots mc ms lsA C hH hS hRl (qRs_cons hn hRs) hc hs hL
  (try simp only [List.map_cons, qV_i, qV_l, qV_r, qV_n])
  refine lv_iconst hx hb hd rfl ?_
  refine W.eq ?_ k2
  simp only [List.map_cons, qV_i, qV_l, qV_r, qV_n]
theorem r8_to {n : Int} (h : -128 ≤ n ∧ n < 128) : (Int8.ofInt n).toInt32 = Int32.ofInt n := by
  rw [← Int32.toInt_inj, r32_to ⟨by omega, by omega⟩]
  simp only [Int8.toInt_toInt32]
  exact Int8.toInt_ofInt_of_le (by omega) (by omega)
theorem r16_to {n : Int} (h : -32768 ≤ n ∧ n < 32768) : (Int16.ofInt n).toInt32 = Int32.ofInt n := by
  rw [← Int32.toInt_inj, r32_to ⟨by omega, by omega⟩]
  simp only [Int16.toInt_toInt32]
  exact Int16.toInt_ofInt_of_le (by omega) (by omega)
theorem z_bipush {n : Int} (hd : decode (qMc M) pc = .ok (.bipush n, 2)) (hn : -128 ≤ n ∧ n < 128) (k : qEx M (pc + 2) ls (qI n :: st) h r hr) : qEx M pc ls (st) h r hr := by
  unfold qEx at *
  refine ⟨k.1, k.2.1, fun G p l e s m args below meth c H locs cells slots mc ms lsA C hH hS hRl hRs hc hs hL => ?_⟩
  obtain ⟨hx, hb, hml, hrt, hown, hlk, hnm, hts, hK, hbs⟩ := id C
  have k2 := k.2.2 G p l e s m args below meth c H locs cells slots mc ms lsA C hH hS hRl (qRs_cons (show R32 n from ⟨by omega, by omega⟩) hRs) hc hs hL
  (try simp only [List.map_cons, qV_i, qV_l, qV_r, qV_n])
  refine lv_bipush hx hb hd (r8_to hn) ?_
  refine W.eq ?_ k2
  simp only [List.map_cons, qV_i, qV_l, qV_r, qV_n]
theorem z_sipush {n : Int} (hd : decode (qMc M) pc = .ok (.sipush n, 3)) (hn : -32768 ≤ n ∧ n < 32768) (k : qEx M (pc + 3) ls (qI n :: st) h r hr) : qEx M pc ls (st) h r hr := by
  unfold qEx at *
  refine ⟨k.1, k.2.1, fun G p l e s m args below meth c H locs cells slots mc ms lsA C hH hS hRl hRs hc hs hL => ?_⟩
  obtain ⟨hx, hb, hml, hrt, hown, hlk, hnm, hts, hK, hbs⟩ := id C
  have k2 := k.2.2 G p l e s m args below meth c H locs cells slots mc ms lsA C hH hS hRl (qRs_cons (show R32 n from ⟨by omega, by omega⟩) hRs) hc hs hL
  (try simp only [List.map_cons, qV_i, qV_l, qV_r, qV_n])
  refine lv_sipush hx hb hd (r16_to hn) ?_
  refine W.eq ?_ k2
  simp only [List.map_cons, qV_i, qV_l, qV_r, qV_n]
theorem z_lconst {n : Fin 2} {z : Int} (hd : decode (qMc M) pc = .ok (.lconst n, 1)) (hz : z = (n : Nat)) (k : qEx M (pc + 1) ls (qL z :: st) h r hr) : qEx M pc ls st h r hr := by
  unfold qEx at *
  refine ⟨k.1, k.2.1, fun G p l e s m args below meth c H locs cells slots mc ms lsA C hH hS hRl hRs hc hs hL => ?_⟩
  obtain ⟨hx, hb, hml, hrt, hown, hlk, hnm, hts, hK, hbs⟩ := id C
  have hn : (n : Nat) < 2 := n.isLt
  have k2 := k.2.2 G p l e s m args below meth c H locs cells slots mc ms lsA C hH hS hRl (qRs_cons (show R64 z from ⟨by omega, by omega⟩) hRs) hc hs hL
  refine lv_lconst hx hb hd (v := Int64.ofInt z) (by rw [hz, Int64.ofInt_eq_ofNat]) ?_
  exact k2
theorem z_ldc {n : Int} {i : Nat} {v : Int32} (hd : decode (qMc M) pc = .ok (.ldc i, 2)) (hw : Cond.constant (qMy M).cls i v ∈ qTbl) (hv : v = Int32.ofInt n) (hn : R32 n) (k : qEx M (pc + 2) ls (qI n :: st) h r hr) : qEx M pc ls st h r hr := by
  unfold qEx at *
  refine ⟨k.1, k.2.1, fun G p l e s m args below meth c H locs cells slots mc ms lsA C hH hS hRl hRs hc hs hL => ?_⟩
  obtain ⟨hx, hb, hml, hrt, hown, hlk, hnm, hts, hK, hbs⟩ := id C
  have k2 := k.2.2 G p l e s m args below meth c H locs cells slots mc ms lsA C hH hS hRl (qRs_cons (show R32 n from hn) hRs) hc hs hL
  refine lv_ldc hx hb hown (hts _ hw) hd ?_
  subst hv
  exact k2
theorem z_ldcw {n : Int} {i : Nat} {v : Int32} (hd : decode (qMc M) pc = .ok (.ldc_w i, 3)) (hw : Cond.constant (qMy M).cls i v ∈ qTbl) (hv : v = Int32.ofInt n) (hn : R32 n) (k : qEx M (pc + 3) ls (qI n :: st) h r hr) : qEx M pc ls st h r hr := by
  unfold qEx at *
  refine ⟨k.1, k.2.1, fun G p l e s m args below meth c H locs cells slots mc ms lsA C hH hS hRl hRs hc hs hL => ?_⟩
  obtain ⟨hx, hb, hml, hrt, hown, hlk, hnm, hts, hK, hbs⟩ := id C
  have k2 := k.2.2 G p l e s m args below meth c H locs cells slots mc ms lsA C hH hS hRl (qRs_cons (show R32 n from hn) hRs) hc hs hL
  refine lv_ldcw hx hb hown (hts _ hw) hd ?_
  subst hv
  exact k2
theorem z_ldc2 {n : Int} {i : Nat} {v : Int64} (hd : decode (qMc M) pc = .ok (.ldc2_w i, 3)) (hw : Cond.constantLong (qMy M).cls i v ∈ qTbl) (hv : v = Int64.ofInt n) (hn : R64 n) (k : qEx M (pc + 3) ls (qL n :: st) h r hr) : qEx M pc ls st h r hr := by
  unfold qEx at *
  refine ⟨k.1, k.2.1, fun G p l e s m args below meth c H locs cells slots mc ms lsA C hH hS hRl hRs hc hs hL => ?_⟩
  obtain ⟨hx, hb, hml, hrt, hown, hlk, hnm, hts, hK, hbs⟩ := id C
  have k2 := k.2.2 G p l e s m args below meth c H locs cells slots mc ms lsA C hH hS hRl (qRs_cons (show R64 n from hn) hRs) hc hs hL
  refine lv_ldc2 hx hb hown (hts _ hw) hd ?_
  subst hv
  exact k2
theorem z_iload_n {j : Fin 4} {i : Nat} {x : Int} (hd : decode (qMc M) pc = .ok (.iload_n j, 1)) (hi : (j : Nat) = i) (hv : ls[i]? = some (qI x)) (k : qEx M (pc + 1) ls (qI x :: st) h r hr) : qEx M pc ls (st) h r hr := by
  unfold qEx at *
  refine ⟨k.1, k.2.1, fun G p l e s m args below meth c H locs cells slots mc ms lsA C hH hS hRl hRs hc hs hL => ?_⟩
  obtain ⟨hx, hb, hml, hrt, hown, hlk, hnm, hts, hK, hbs⟩ := id C
  have k2 := k.2.2 G p l e s m args below meth c H locs cells slots mc ms lsA C hH hS hRl (qRs_cons (qRs_at hRl hv) hRs) hc hs hL
  (try simp only [List.map_cons, qV_i, qV_l, qV_r, qV_n])
  refine lv_iload_n hx hb hd hi (qLR_at hL hv) ?_
  refine W.eq ?_ k2
  simp only [List.map_cons, qV_i, qV_l, qV_r, qV_n]
theorem z_iload {i : Nat} {x : Int} (hd : decode (qMc M) pc = .ok (.iload i, 2)) (hv : ls[i]? = some (qI x)) (k : qEx M (pc + 2) ls (qI x :: st) h r hr) : qEx M pc ls (st) h r hr := by
  unfold qEx at *
  refine ⟨k.1, k.2.1, fun G p l e s m args below meth c H locs cells slots mc ms lsA C hH hS hRl hRs hc hs hL => ?_⟩
  obtain ⟨hx, hb, hml, hrt, hown, hlk, hnm, hts, hK, hbs⟩ := id C
  have k2 := k.2.2 G p l e s m args below meth c H locs cells slots mc ms lsA C hH hS hRl (qRs_cons (qRs_at hRl hv) hRs) hc hs hL
  (try simp only [List.map_cons, qV_i, qV_l, qV_r, qV_n])
  refine lv_iload hx hb hd (qLR_at hL hv) ?_
  refine W.eq ?_ k2
  simp only [List.map_cons, qV_i, qV_l, qV_r, qV_n]
theorem z_lload_n {j : Fin 4} {i : Nat} {x : Int} (hd : decode (qMc M) pc = .ok (.lload_n j, 1)) (hi : (j : Nat) = i) (hv : ls[i]? = some (qL x)) (k : qEx M (pc + 1) ls (qL x :: st) h r hr) : qEx M pc ls (st) h r hr := by
  unfold qEx at *
  refine ⟨k.1, k.2.1, fun G p l e s m args below meth c H locs cells slots mc ms lsA C hH hS hRl hRs hc hs hL => ?_⟩
  obtain ⟨hx, hb, hml, hrt, hown, hlk, hnm, hts, hK, hbs⟩ := id C
  have k2 := k.2.2 G p l e s m args below meth c H locs cells slots mc ms lsA C hH hS hRl (qRs_cons (qRs_at hRl hv) hRs) hc hs hL
  (try simp only [List.map_cons, qV_i, qV_l, qV_r, qV_n])
  refine lv_lload_n hx hb hd hi (qLR_at hL hv) ?_
  refine W.eq ?_ k2
  simp only [List.map_cons, qV_i, qV_l, qV_r, qV_n]
theorem z_lload {i : Nat} {x : Int} (hd : decode (qMc M) pc = .ok (.lload i, 2)) (hv : ls[i]? = some (qL x)) (k : qEx M (pc + 2) ls (qL x :: st) h r hr) : qEx M pc ls (st) h r hr := by
  unfold qEx at *
  refine ⟨k.1, k.2.1, fun G p l e s m args below meth c H locs cells slots mc ms lsA C hH hS hRl hRs hc hs hL => ?_⟩
  obtain ⟨hx, hb, hml, hrt, hown, hlk, hnm, hts, hK, hbs⟩ := id C
  have k2 := k.2.2 G p l e s m args below meth c H locs cells slots mc ms lsA C hH hS hRl (qRs_cons (qRs_at hRl hv) hRs) hc hs hL
  (try simp only [List.map_cons, qV_i, qV_l, qV_r, qV_n])
  refine lv_lload hx hb hd (qLR_at hL hv) ?_
  refine W.eq ?_ k2
  simp only [List.map_cons, qV_i, qV_l, qV_r, qV_n]
theorem z_aload_n {j : Fin 4} {i : Nat} {x : Nat} (hd : decode (qMc M) pc = .ok (.aload_n j, 1)) (hi : (j : Nat) = i) (hv : ls[i]? = some (qR x)) (k : qEx M (pc + 1) ls (qR x :: st) h r hr) : qEx M pc ls (st) h r hr := by
  unfold qEx at *
  refine ⟨k.1, k.2.1, fun G p l e s m args below meth c H locs cells slots mc ms lsA C hH hS hRl hRs hc hs hL => ?_⟩
  obtain ⟨hx, hb, hml, hrt, hown, hlk, hnm, hts, hK, hbs⟩ := id C
  have k2 := k.2.2 G p l e s m args below meth c H locs cells slots mc ms lsA C hH hS hRl (qRs_cons (qRs_at hRl hv) hRs) hc hs hL
  (try simp only [List.map_cons, qV_i, qV_l, qV_r, qV_n])
  refine lv_aload_n hx hb hd hi (qLR_at hL hv) ?_
  refine W.eq ?_ k2
  simp only [List.map_cons, qV_i, qV_l, qV_r, qV_n]
theorem z_aload {i : Nat} {x : Nat} (hd : decode (qMc M) pc = .ok (.aload i, 2)) (hv : ls[i]? = some (qR x)) (k : qEx M (pc + 2) ls (qR x :: st) h r hr) : qEx M pc ls (st) h r hr := by
  unfold qEx at *
  refine ⟨k.1, k.2.1, fun G p l e s m args below meth c H locs cells slots mc ms lsA C hH hS hRl hRs hc hs hL => ?_⟩
  obtain ⟨hx, hb, hml, hrt, hown, hlk, hnm, hts, hK, hbs⟩ := id C
  have k2 := k.2.2 G p l e s m args below meth c H locs cells slots mc ms lsA C hH hS hRl (qRs_cons (qRs_at hRl hv) hRs) hc hs hL
  (try simp only [List.map_cons, qV_i, qV_l, qV_r, qV_n])
  refine lv_aload hx hb hd (qLR_at hL hv) ?_
  refine W.eq ?_ k2
  simp only [List.map_cons, qV_i, qV_l, qV_r, qV_n]
theorem z_istore_n {j : Fin 4} {i : Nat} {x : Int} {ls' : List qA} (hd : decode (qMc M) pc = .ok (.istore_n j, 1)) (hi : (j : Nat) = i) (hn : i < qMl M) (hl : qSt ls i (qI x) = ls') (k : qEx M (pc + 1) ls' st h r hr) : qEx M pc ls (qI x :: st) h r hr := by
  unfold qEx at *
  refine ⟨k.1, k.2.1, fun G p l e s m args below meth c H locs cells slots mc ms lsA C hH hS hRl hRs hc hs hL => ?_⟩
  obtain ⟨hx, hb, hml, hrt, hown, hlk, hnm, hts, hK, hbs⟩ := id C
  refine lv_istore_n hx hb hd hi (qLR_has hL) hn rfl (fun lsB hB => ?_)
  exact k.2.2 G p l e s m args below meth c H locs cells slots mc ms lsB C hH hS (hl ▸ qRs_st hRl (qRs_head hRs)) (qRs_tail hRs) hc hs (hl ▸ qLR_store hL hB)
theorem z_istore {i : Nat} {x : Int} {ls' : List qA} (hd : decode (qMc M) pc = .ok (.istore i, 2)) (hn : i < qMl M) (hl : qSt ls i (qI x) = ls') (k : qEx M (pc + 2) ls' st h r hr) : qEx M pc ls (qI x :: st) h r hr := by
  unfold qEx at *
  refine ⟨k.1, k.2.1, fun G p l e s m args below meth c H locs cells slots mc ms lsA C hH hS hRl hRs hc hs hL => ?_⟩
  obtain ⟨hx, hb, hml, hrt, hown, hlk, hnm, hts, hK, hbs⟩ := id C
  refine lv_istore hx hb hd (qLR_has hL) hn rfl (fun lsB hB => ?_)
  exact k.2.2 G p l e s m args below meth c H locs cells slots mc ms lsB C hH hS (hl ▸ qRs_st hRl (qRs_head hRs)) (qRs_tail hRs) hc hs (hl ▸ qLR_store hL hB)
theorem z_astore_n {j : Fin 4} {i : Nat} {x : Nat} {ls' : List qA} (hd : decode (qMc M) pc = .ok (.astore_n j, 1)) (hi : (j : Nat) = i) (hn : i < qMl M) (hl : qSt ls i (qR x) = ls') (k : qEx M (pc + 1) ls' st h r hr) : qEx M pc ls (qR x :: st) h r hr := by
  unfold qEx at *
  refine ⟨k.1, k.2.1, fun G p l e s m args below meth c H locs cells slots mc ms lsA C hH hS hRl hRs hc hs hL => ?_⟩
  obtain ⟨hx, hb, hml, hrt, hown, hlk, hnm, hts, hK, hbs⟩ := id C
  refine lv_astore_n hx hb hd hi (qLR_has hL) hn rfl (fun lsB hB => ?_)
  exact k.2.2 G p l e s m args below meth c H locs cells slots mc ms lsB C hH hS (hl ▸ qRs_st hRl (qRs_head hRs)) (qRs_tail hRs) hc hs (hl ▸ qLR_store hL hB)
theorem z_astore {i : Nat} {x : Nat} {ls' : List qA} (hd : decode (qMc M) pc = .ok (.astore i, 2)) (hn : i < qMl M) (hl : qSt ls i (qR x) = ls') (k : qEx M (pc + 2) ls' st h r hr) : qEx M pc ls (qR x :: st) h r hr := by
  unfold qEx at *
  refine ⟨k.1, k.2.1, fun G p l e s m args below meth c H locs cells slots mc ms lsA C hH hS hRl hRs hc hs hL => ?_⟩
  obtain ⟨hx, hb, hml, hrt, hown, hlk, hnm, hts, hK, hbs⟩ := id C
  refine lv_astore hx hb hd (qLR_has hL) hn rfl (fun lsB hB => ?_)
  exact k.2.2 G p l e s m args below meth c H locs cells slots mc ms lsB C hH hS (hl ▸ qRs_st hRl (qRs_head hRs)) (qRs_tail hRs) hc hs (hl ▸ qLR_store hL hB)
theorem z_lstore_n {j : Fin 4} {i : Nat} {x : Int} {ls' : List qA} (hd : decode (qMc M) pc = .ok (.lstore_n j, 1)) (hi : (j : Nat) = i) (hn : i + 1 < qMl M) (hl : qSt2 ls i (qL x) = ls') (k : qEx M (pc + 1) ls' st h r hr) : qEx M pc ls (qL x :: st) h r hr := by
  unfold qEx at *
  refine ⟨k.1, k.2.1, fun G p l e s m args below meth c H locs cells slots mc ms lsA C hH hS hRl hRs hc hs hL => ?_⟩
  obtain ⟨hx, hb, hml, hrt, hown, hlk, hnm, hts, hK, hbs⟩ := id C
  refine lv_lstore_n hx hb hd hi (qLR_has hL) hn rfl (fun lsB hB => ?_)
  exact k.2.2 G p l e s m args below meth c H locs cells slots mc ms lsB C hH hS (hl ▸ qRs_set (qRs_st hRl (qRs_head hRs)) trivial) (qRs_tail hRs) hc hs (hl ▸ qLR_store2 hL hB)
theorem z_lstore {i : Nat} {x : Int} {ls' : List qA} (hd : decode (qMc M) pc = .ok (.lstore i, 2)) (hn : i + 1 < qMl M) (hl : qSt2 ls i (qL x) = ls') (k : qEx M (pc + 2) ls' st h r hr) : qEx M pc ls (qL x :: st) h r hr := by
  unfold qEx at *
  refine ⟨k.1, k.2.1, fun G p l e s m args below meth c H locs cells slots mc ms lsA C hH hS hRl hRs hc hs hL => ?_⟩
  obtain ⟨hx, hb, hml, hrt, hown, hlk, hnm, hts, hK, hbs⟩ := id C
  refine lv_lstore hx hb hd (qLR_has hL) hn rfl (fun lsB hB => ?_)
  exact k.2.2 G p l e s m args below meth c H locs cells slots mc ms lsB C hH hS (hl ▸ qRs_set (qRs_st hRl (qRs_head hRs)) trivial) (qRs_tail hRs) hc hs (hl ▸ qLR_store2 hL hB)
theorem z_iinc {i : Nat} {n x : Int} {ls' : List qA} (hd : decode (qMc M) pc = .ok (.iinc i n, 3)) (hv : ls[i]? = some (qI x)) (hn : i < qMl M) (hR : R32 (x + n)) (hl : qSt ls i (qI (x + n)) = ls') (k : qEx M (pc + 3) ls' st h r hr) : qEx M pc ls st h r hr := by
  unfold qEx at *
  refine ⟨k.1, k.2.1, fun G p l e s m args below meth c H locs cells slots mc ms lsA C hH hS hRl hRs hc hs hL => ?_⟩
  obtain ⟨hx, hb, hml, hrt, hown, hlk, hnm, hts, hK, hbs⟩ := id C
  obtain ⟨j, hj⟩ := List.getElem?_of_mem (qLl_mem (G := G) (w := .int (Int32.ofInt x)).mpr ⟨_, hv, rfl⟩)
  refine lv_iinc hx hb hd (qLR_has hL) hj (v := Int32.ofInt (x + n)) (by rw [Int32.ofInt_add]) hn rfl (fun lsB hB => ?_)
  exact k.2.2 G p l e s m args below meth c H locs cells slots mc ms lsB C hH hS (hl ▸ qRs_st hRl (show R32 (x + n) from hR)) hRs hc hs (hl ▸ qLR_store hL hB)
theorem z_iadd {x y : Int} (hd : decode (qMc M) pc = .ok (.iadd, 1)) (hR : R32 (x + y)) (k : qEx M (pc + 1) ls (qI (x + y) :: st) h r hr) : qEx M pc ls (qI y :: qI x :: st) h r hr := by
  unfold qEx at *
  refine ⟨k.1, k.2.1, fun G p l e s m args below meth c H locs cells slots mc ms lsA C hH hS hRl hRs hc hs hL => ?_⟩
  obtain ⟨hx, hb, hml, hrt, hown, hlk, hnm, hts, hK, hbs⟩ := id C
  have k2 := k.2.2 G p l e s m args below meth c H locs cells slots mc ms lsA C hH hS hRl (qRs_cons (show R32 (x + y) from hR) (qRs_tail (qRs_tail hRs))) hc hs hL
  (try simp only [List.map_cons, qV_i, qV_l, qV_r, qV_n])
  refine lv_iadd hx hb hd ?_
  refine W.eq ?_ k2
  simp only [List.map_cons, qV_i, qV_l, qV_r, qV_n, Int32.ofInt_add]
theorem z_isub {x y : Int} (hd : decode (qMc M) pc = .ok (.isub, 1)) (hR : R32 (x - y)) (k : qEx M (pc + 1) ls (qI (x - y) :: st) h r hr) : qEx M pc ls (qI y :: qI x :: st) h r hr := by
  unfold qEx at *
  refine ⟨k.1, k.2.1, fun G p l e s m args below meth c H locs cells slots mc ms lsA C hH hS hRl hRs hc hs hL => ?_⟩
  obtain ⟨hx, hb, hml, hrt, hown, hlk, hnm, hts, hK, hbs⟩ := id C
  have k2 := k.2.2 G p l e s m args below meth c H locs cells slots mc ms lsA C hH hS hRl (qRs_cons (show R32 (x - y) from hR) (qRs_tail (qRs_tail hRs))) hc hs hL
  (try simp only [List.map_cons, qV_i, qV_l, qV_r, qV_n])
  refine lv_isub hx hb hd ?_
  refine W.eq ?_ k2
  simp only [List.map_cons, qV_i, qV_l, qV_r, qV_n, Int32.ofInt_sub]
theorem z_imul {x y : Int} (hd : decode (qMc M) pc = .ok (.imul, 1)) (hR : R32 (x * y)) (k : qEx M (pc + 1) ls (qI (x * y) :: st) h r hr) : qEx M pc ls (qI y :: qI x :: st) h r hr := by
  unfold qEx at *
  refine ⟨k.1, k.2.1, fun G p l e s m args below meth c H locs cells slots mc ms lsA C hH hS hRl hRs hc hs hL => ?_⟩
  obtain ⟨hx, hb, hml, hrt, hown, hlk, hnm, hts, hK, hbs⟩ := id C
  have k2 := k.2.2 G p l e s m args below meth c H locs cells slots mc ms lsA C hH hS hRl (qRs_cons (show R32 (x * y) from hR) (qRs_tail (qRs_tail hRs))) hc hs hL
  (try simp only [List.map_cons, qV_i, qV_l, qV_r, qV_n])
  refine lv_imul hx hb hd ?_
  refine W.eq ?_ k2
  simp only [List.map_cons, qV_i, qV_l, qV_r, qV_n, Int32.ofInt_mul]
theorem z_ineg {x : Int} (hd : decode (qMc M) pc = .ok (.ineg, 1)) (hR : R32 (-x)) (k : qEx M (pc + 1) ls (qI (-x) :: st) h r hr) : qEx M pc ls (qI x :: st) h r hr := by
  unfold qEx at *
  refine ⟨k.1, k.2.1, fun G p l e s m args below meth c H locs cells slots mc ms lsA C hH hS hRl hRs hc hs hL => ?_⟩
  obtain ⟨hx, hb, hml, hrt, hown, hlk, hnm, hts, hK, hbs⟩ := id C
  have k2 := k.2.2 G p l e s m args below meth c H locs cells slots mc ms lsA C hH hS hRl (qRs_cons (show R32 (-x) from hR) (qRs_tail hRs)) hc hs hL
  (try simp only [List.map_cons, qV_i, qV_l, qV_r, qV_n])
  refine lv_ineg hx hb hd ?_
  refine W.eq ?_ k2
  simp only [List.map_cons, qV_i, qV_l, qV_r, qV_n, Int32.ofInt_neg]
theorem z_iand {x y : Int} (hd : decode (qMc M) pc = .ok (.iand, 1))  (k : qEx M (pc + 1) ls (qI (qAnd x y) :: st) h r hr) : qEx M pc ls (qI y :: qI x :: st) h r hr := by
  unfold qEx at *
  refine ⟨k.1, k.2.1, fun G p l e s m args below meth c H locs cells slots mc ms lsA C hH hS hRl hRs hc hs hL => ?_⟩
  obtain ⟨hx, hb, hml, hrt, hown, hlk, hnm, hts, hK, hbs⟩ := id C
  have k2 := k.2.2 G p l e s m args below meth c H locs cells slots mc ms lsA C hH hS hRl (qRs_cons (show R32 (qAnd x y) from r32_in) (qRs_tail (qRs_tail hRs))) hc hs hL
  (try simp only [List.map_cons, qV_i, qV_l, qV_r, qV_n])
  refine lv_iand hx hb hd ?_
  refine W.eq ?_ k2
  simp only [List.map_cons, qV_i, qV_l, qV_r, qV_n, qAnd, Int32.ofInt_toInt]
theorem z_ior {x y : Int} (hd : decode (qMc M) pc = .ok (.ior, 1))  (k : qEx M (pc + 1) ls (qI (qOr x y) :: st) h r hr) : qEx M pc ls (qI y :: qI x :: st) h r hr := by
  unfold qEx at *
  refine ⟨k.1, k.2.1, fun G p l e s m args below meth c H locs cells slots mc ms lsA C hH hS hRl hRs hc hs hL => ?_⟩
  obtain ⟨hx, hb, hml, hrt, hown, hlk, hnm, hts, hK, hbs⟩ := id C
  have k2 := k.2.2 G p l e s m args below meth c H locs cells slots mc ms lsA C hH hS hRl (qRs_cons (show R32 (qOr x y) from r32_in) (qRs_tail (qRs_tail hRs))) hc hs hL
  (try simp only [List.map_cons, qV_i, qV_l, qV_r, qV_n])
  refine lv_ior hx hb hd ?_
  refine W.eq ?_ k2
  simp only [List.map_cons, qV_i, qV_l, qV_r, qV_n, qOr, Int32.ofInt_toInt]
theorem z_ixor {x y : Int} (hd : decode (qMc M) pc = .ok (.ixor, 1))  (k : qEx M (pc + 1) ls (qI (qXor x y) :: st) h r hr) : qEx M pc ls (qI y :: qI x :: st) h r hr := by
  unfold qEx at *
  refine ⟨k.1, k.2.1, fun G p l e s m args below meth c H locs cells slots mc ms lsA C hH hS hRl hRs hc hs hL => ?_⟩
  obtain ⟨hx, hb, hml, hrt, hown, hlk, hnm, hts, hK, hbs⟩ := id C
  have k2 := k.2.2 G p l e s m args below meth c H locs cells slots mc ms lsA C hH hS hRl (qRs_cons (show R32 (qXor x y) from r32_in) (qRs_tail (qRs_tail hRs))) hc hs hL
  (try simp only [List.map_cons, qV_i, qV_l, qV_r, qV_n])
  refine lv_ixor hx hb hd ?_
  refine W.eq ?_ k2
  simp only [List.map_cons, qV_i, qV_l, qV_r, qV_n, qXor, Int32.ofInt_toInt]
theorem z_ishl {x y : Int} (hd : decode (qMc M) pc = .ok (.ishl, 1))  (k : qEx M (pc + 1) ls (qI (qShl x y) :: st) h r hr) : qEx M pc ls (qI y :: qI x :: st) h r hr := by
  unfold qEx at *
  refine ⟨k.1, k.2.1, fun G p l e s m args below meth c H locs cells slots mc ms lsA C hH hS hRl hRs hc hs hL => ?_⟩
  obtain ⟨hx, hb, hml, hrt, hown, hlk, hnm, hts, hK, hbs⟩ := id C
  have k2 := k.2.2 G p l e s m args below meth c H locs cells slots mc ms lsA C hH hS hRl (qRs_cons (show R32 (qShl x y) from r32_in) (qRs_tail (qRs_tail hRs))) hc hs hL
  (try simp only [List.map_cons, qV_i, qV_l, qV_r, qV_n])
  refine lv_ishl hx hb hd ?_
  refine W.eq ?_ k2
  simp only [List.map_cons, qV_i, qV_l, qV_r, qV_n, qShl, Int32.ofInt_toInt]
theorem z_ishr {x y : Int} (hd : decode (qMc M) pc = .ok (.ishr, 1))  (k : qEx M (pc + 1) ls (qI (qShr x y) :: st) h r hr) : qEx M pc ls (qI y :: qI x :: st) h r hr := by
  unfold qEx at *
  refine ⟨k.1, k.2.1, fun G p l e s m args below meth c H locs cells slots mc ms lsA C hH hS hRl hRs hc hs hL => ?_⟩
  obtain ⟨hx, hb, hml, hrt, hown, hlk, hnm, hts, hK, hbs⟩ := id C
  have k2 := k.2.2 G p l e s m args below meth c H locs cells slots mc ms lsA C hH hS hRl (qRs_cons (show R32 (qShr x y) from r32_in) (qRs_tail (qRs_tail hRs))) hc hs hL
  (try simp only [List.map_cons, qV_i, qV_l, qV_r, qV_n])
  refine lv_ishr hx hb hd ?_
  refine W.eq ?_ k2
  simp only [List.map_cons, qV_i, qV_l, qV_r, qV_n, qShr, Int32.ofInt_toInt]
theorem z_iushr {x y : Int} (hd : decode (qMc M) pc = .ok (.iushr, 1))  (k : qEx M (pc + 1) ls (qI (qUshr x y) :: st) h r hr) : qEx M pc ls (qI y :: qI x :: st) h r hr := by
  unfold qEx at *
  refine ⟨k.1, k.2.1, fun G p l e s m args below meth c H locs cells slots mc ms lsA C hH hS hRl hRs hc hs hL => ?_⟩
  obtain ⟨hx, hb, hml, hrt, hown, hlk, hnm, hts, hK, hbs⟩ := id C
  have k2 := k.2.2 G p l e s m args below meth c H locs cells slots mc ms lsA C hH hS hRl (qRs_cons (show R32 (qUshr x y) from r32_in) (qRs_tail (qRs_tail hRs))) hc hs hL
  (try simp only [List.map_cons, qV_i, qV_l, qV_r, qV_n])
  refine lv_iushr hx hb hd rfl ?_
  refine W.eq ?_ k2
  simp only [List.map_cons, qV_i, qV_l, qV_r, qV_n, qUshr, Int32.ofInt_toInt]
theorem z_idiv {x y : Int} (hd : decode (qMc M) pc = .ok (.idiv, 1)) (h0 : 0 < y) (k : qEx M (pc + 1) ls (qI (x.tdiv y) :: st) h r hr) : qEx M pc ls (qI y :: qI x :: st) h r hr := by
  unfold qEx at *
  refine ⟨k.1, k.2.1, fun G p l e s m args below meth c H locs cells slots mc ms lsA C hH hS hRl hRs hc hs hL => ?_⟩
  obtain ⟨hx, hb, hml, hrt, hown, hlk, hnm, hts, hK, hbs⟩ := id C
  have k2 := k.2.2 G p l e s m args below meth c H locs cells slots mc ms lsA C hH hS hRl (qRs_cons (show R32 (x.tdiv y) from (r32_div (qRs_head (qRs_tail hRs)) (qRs_head hRs) h0).2) (qRs_tail (qRs_tail hRs))) hc hs hL
  (try simp only [List.map_cons, qV_i, qV_l, qV_r, qV_n])
  refine lv_idiv hx hb hd (r32_ne0 (qRs_head hRs) (by omega)) ?_
  refine W.eq ?_ k2
  simp only [List.map_cons, qV_i, qV_l, qV_r, qV_n, (r32_div (qRs_head (qRs_tail hRs)) (qRs_head hRs) h0).1]
theorem z_irem {x y : Int} (hd : decode (qMc M) pc = .ok (.irem, 1)) (h0 : y ≠ 0) (k : qEx M (pc + 1) ls (qI (x.tmod y) :: st) h r hr) : qEx M pc ls (qI y :: qI x :: st) h r hr := by
  unfold qEx at *
  refine ⟨k.1, k.2.1, fun G p l e s m args below meth c H locs cells slots mc ms lsA C hH hS hRl hRs hc hs hL => ?_⟩
  obtain ⟨hx, hb, hml, hrt, hown, hlk, hnm, hts, hK, hbs⟩ := id C
  have k2 := k.2.2 G p l e s m args below meth c H locs cells slots mc ms lsA C hH hS hRl (qRs_cons (show R32 (x.tmod y) from (r32_rem (qRs_head (qRs_tail hRs)) (qRs_head hRs)).2) (qRs_tail (qRs_tail hRs))) hc hs hL
  (try simp only [List.map_cons, qV_i, qV_l, qV_r, qV_n])
  refine lv_irem hx hb hd (r32_ne0 (qRs_head hRs) h0) ?_
  refine W.eq ?_ k2
  simp only [List.map_cons, qV_i, qV_l, qV_r, qV_n, (r32_rem (qRs_head (qRs_tail hRs)) (qRs_head hRs)).1]
theorem z_ladd {x y : Int} (hd : decode (qMc M) pc = .ok (.ladd, 1)) (hR : R64 (x + y)) (k : qEx M (pc + 1) ls (qL (x + y) :: st) h r hr) : qEx M pc ls (qL y :: qL x :: st) h r hr := by
  unfold qEx at *
  refine ⟨k.1, k.2.1, fun G p l e s m args below meth c H locs cells slots mc ms lsA C hH hS hRl hRs hc hs hL => ?_⟩
  obtain ⟨hx, hb, hml, hrt, hown, hlk, hnm, hts, hK, hbs⟩ := id C
  have k2 := k.2.2 G p l e s m args below meth c H locs cells slots mc ms lsA C hH hS hRl (qRs_cons (show R64 (x + y) from hR) (qRs_tail (qRs_tail hRs))) hc hs hL
  (try simp only [List.map_cons, qV_i, qV_l, qV_r, qV_n])
  refine lv_ladd hx hb hd ?_
  refine W.eq ?_ k2
  simp only [List.map_cons, qV_i, qV_l, qV_r, qV_n, Int64.ofInt_add]
theorem z_lsub {x y : Int} (hd : decode (qMc M) pc = .ok (.lsub, 1)) (hR : R64 (x - y)) (k : qEx M (pc + 1) ls (qL (x - y) :: st) h r hr) : qEx M pc ls (qL y :: qL x :: st) h r hr := by
  unfold qEx at *
  refine ⟨k.1, k.2.1, fun G p l e s m args below meth c H locs cells slots mc ms lsA C hH hS hRl hRs hc hs hL => ?_⟩
  obtain ⟨hx, hb, hml, hrt, hown, hlk, hnm, hts, hK, hbs⟩ := id C
  have k2 := k.2.2 G p l e s m args below meth c H locs cells slots mc ms lsA C hH hS hRl (qRs_cons (show R64 (x - y) from hR) (qRs_tail (qRs_tail hRs))) hc hs hL
  (try simp only [List.map_cons, qV_i, qV_l, qV_r, qV_n])
  refine lv_lsub hx hb hd ?_
  refine W.eq ?_ k2
  simp only [List.map_cons, qV_i, qV_l, qV_r, qV_n, Int64.ofInt_sub]
theorem z_lmul {x y : Int} (hd : decode (qMc M) pc = .ok (.lmul, 1)) (hR : R64 (x * y)) (k : qEx M (pc + 1) ls (qL (x * y) :: st) h r hr) : qEx M pc ls (qL y :: qL x :: st) h r hr := by
  unfold qEx at *
  refine ⟨k.1, k.2.1, fun G p l e s m args below meth c H locs cells slots mc ms lsA C hH hS hRl hRs hc hs hL => ?_⟩
  obtain ⟨hx, hb, hml, hrt, hown, hlk, hnm, hts, hK, hbs⟩ := id C
  have k2 := k.2.2 G p l e s m args below meth c H locs cells slots mc ms lsA C hH hS hRl (qRs_cons (show R64 (x * y) from hR) (qRs_tail (qRs_tail hRs))) hc hs hL
  (try simp only [List.map_cons, qV_i, qV_l, qV_r, qV_n])
  refine lv_lmul hx hb hd ?_
  refine W.eq ?_ k2
  simp only [List.map_cons, qV_i, qV_l, qV_r, qV_n, Int64.ofInt_mul]
theorem z_lmulw {x y : Int} (hd : decode (qMc M) pc = .ok (.lmul, 1))  (k : qEx M (pc + 1) ls (qL (qLmul x y) :: st) h r hr) : qEx M pc ls (qL y :: qL x :: st) h r hr := by
  unfold qEx at *
  refine ⟨k.1, k.2.1, fun G p l e s m args below meth c H locs cells slots mc ms lsA C hH hS hRl hRs hc hs hL => ?_⟩
  obtain ⟨hx, hb, hml, hrt, hown, hlk, hnm, hts, hK, hbs⟩ := id C
  have k2 := k.2.2 G p l e s m args below meth c H locs cells slots mc ms lsA C hH hS hRl (qRs_cons (show R64 (qLmul x y) from r64_in) (qRs_tail (qRs_tail hRs))) hc hs hL
  (try simp only [List.map_cons, qV_i, qV_l, qV_r, qV_n])
  refine lv_lmul hx hb hd ?_
  refine W.eq ?_ k2
  simp only [List.map_cons, qV_i, qV_l, qV_r, qV_n, qLmul, Int64.ofInt_toInt]
theorem z_laddw {x y : Int} (hd : decode (qMc M) pc = .ok (.ladd, 1))  (k : qEx M (pc + 1) ls (qL (qLadd x y) :: st) h r hr) : qEx M pc ls (qL y :: qL x :: st) h r hr := by
  unfold qEx at *
  refine ⟨k.1, k.2.1, fun G p l e s m args below meth c H locs cells slots mc ms lsA C hH hS hRl hRs hc hs hL => ?_⟩
  obtain ⟨hx, hb, hml, hrt, hown, hlk, hnm, hts, hK, hbs⟩ := id C
  have k2 := k.2.2 G p l e s m args below meth c H locs cells slots mc ms lsA C hH hS hRl (qRs_cons (show R64 (qLadd x y) from r64_in) (qRs_tail (qRs_tail hRs))) hc hs hL
  (try simp only [List.map_cons, qV_i, qV_l, qV_r, qV_n])
  refine lv_ladd hx hb hd ?_
  refine W.eq ?_ k2
  simp only [List.map_cons, qV_i, qV_l, qV_r, qV_n, qLadd, Int64.ofInt_toInt]
theorem z_lor {x y : Int} (hd : decode (qMc M) pc = .ok (.lor, 1))  (k : qEx M (pc + 1) ls (qL (qLor x y) :: st) h r hr) : qEx M pc ls (qL y :: qL x :: st) h r hr := by
  unfold qEx at *
  refine ⟨k.1, k.2.1, fun G p l e s m args below meth c H locs cells slots mc ms lsA C hH hS hRl hRs hc hs hL => ?_⟩
  obtain ⟨hx, hb, hml, hrt, hown, hlk, hnm, hts, hK, hbs⟩ := id C
  have k2 := k.2.2 G p l e s m args below meth c H locs cells slots mc ms lsA C hH hS hRl (qRs_cons (show R64 (qLor x y) from r64_in) (qRs_tail (qRs_tail hRs))) hc hs hL
  (try simp only [List.map_cons, qV_i, qV_l, qV_r, qV_n])
  refine lv_lor hx hb hd ?_
  refine W.eq ?_ k2
  simp only [List.map_cons, qV_i, qV_l, qV_r, qV_n, qLor, Int64.ofInt_toInt]
theorem z_lxor {x y : Int} (hd : decode (qMc M) pc = .ok (.lxor, 1))  (k : qEx M (pc + 1) ls (qL (qLxor x y) :: st) h r hr) : qEx M pc ls (qL y :: qL x :: st) h r hr := by
  unfold qEx at *
  refine ⟨k.1, k.2.1, fun G p l e s m args below meth c H locs cells slots mc ms lsA C hH hS hRl hRs hc hs hL => ?_⟩
  obtain ⟨hx, hb, hml, hrt, hown, hlk, hnm, hts, hK, hbs⟩ := id C
  have k2 := k.2.2 G p l e s m args below meth c H locs cells slots mc ms lsA C hH hS hRl (qRs_cons (show R64 (qLxor x y) from r64_in) (qRs_tail (qRs_tail hRs))) hc hs hL
  (try simp only [List.map_cons, qV_i, qV_l, qV_r, qV_n])
  refine lv_lxor hx hb hd ?_
  refine W.eq ?_ k2
  simp only [List.map_cons, qV_i, qV_l, qV_r, qV_n, qLxor, Int64.ofInt_toInt]
theorem z_lshl {x y : Int} (hd : decode (qMc M) pc = .ok (.lshl, 1))  (k : qEx M (pc + 1) ls (qL (qLshl x y) :: st) h r hr) : qEx M pc ls (qI y :: qL x :: st) h r hr := by
  unfold qEx at *
  refine ⟨k.1, k.2.1, fun G p l e s m args below meth c H locs cells slots mc ms lsA C hH hS hRl hRs hc hs hL => ?_⟩
  obtain ⟨hx, hb, hml, hrt, hown, hlk, hnm, hts, hK, hbs⟩ := id C
  have k2 := k.2.2 G p l e s m args below meth c H locs cells slots mc ms lsA C hH hS hRl (qRs_cons (show R64 (qLshl x y) from r64_in) (qRs_tail (qRs_tail hRs))) hc hs hL
  (try simp only [List.map_cons, qV_i, qV_l, qV_r, qV_n])
  refine lv_lshl hx hb hd rfl ?_
  refine W.eq ?_ k2
  simp only [List.map_cons, qV_i, qV_l, qV_r, qV_n, qLshl, Int64.ofInt_toInt]
theorem z_lushr {x y : Int} (hd : decode (qMc M) pc = .ok (.lushr, 1))  (k : qEx M (pc + 1) ls (qL (qLushr x y) :: st) h r hr) : qEx M pc ls (qI y :: qL x :: st) h r hr := by
  unfold qEx at *
  refine ⟨k.1, k.2.1, fun G p l e s m args below meth c H locs cells slots mc ms lsA C hH hS hRl hRs hc hs hL => ?_⟩
  obtain ⟨hx, hb, hml, hrt, hown, hlk, hnm, hts, hK, hbs⟩ := id C
  have k2 := k.2.2 G p l e s m args below meth c H locs cells slots mc ms lsA C hH hS hRl (qRs_cons (show R64 (qLushr x y) from r64_in) (qRs_tail (qRs_tail hRs))) hc hs hL
  (try simp only [List.map_cons, qV_i, qV_l, qV_r, qV_n])
  refine lv_lushr hx hb hd rfl ?_
  refine W.eq ?_ k2
  simp only [List.map_cons, qV_i, qV_l, qV_r, qV_n, qLushr, Int64.ofInt_toInt]
theorem q_lrem_mod (x y : Int64) : x - (x / y) * y = x % y := by
  apply Int64.toInt_inj.mp
  have h1 := Int64.le_toInt (x % y)
  have h2 := Int64.toInt_lt (x % y)
  rw [Int64.toInt_sub, Int64.toInt_mul, Int64.toInt_div, Int.bmod_mul_bmod, Int.sub_bmod_bmod, Int.mul_comm (x.toInt.tdiv y.toInt), ← Int.tmod_def, ← Int64.toInt_mod]
  exact Int.bmod_eq_of_le_mul_two (by omega) (by omega)
theorem r64_rem {x y : Int} (hx : R64 x) (hy : R64 y) : Int64.ofInt x - Int64.ofInt x / Int64.ofInt y * Int64.ofInt y = Int64.ofInt (x.tmod y) ∧ R64 (x.tmod y) := by
  have h : (Int64.ofInt x - Int64.ofInt x / Int64.ofInt y * Int64.ofInt y).toInt = x.tmod y := by
    rw [show Int64.ofInt x - Int64.ofInt x / Int64.ofInt y * Int64.ofInt y = Int64.ofInt x % Int64.ofInt y from q_lrem_mod _ _, Int64.toInt_mod, r64_to hx, r64_to hy]
  exact ⟨by rw [← h, Int64.ofInt_toInt], by rw [← h]; exact r64_in⟩
theorem z_lrem {x y : Int} (hd : decode (qMc M) pc = .ok (.lrem, 1)) (h0 : y ≠ 0) (k : qEx M (pc + 1) ls (qL (x.tmod y) :: st) h r hr) : qEx M pc ls (qL y :: qL x :: st) h r hr := by
  unfold qEx at *
  refine ⟨k.1, k.2.1, fun G p l e s m args below meth c H locs cells slots mc ms lsA C hH hS hRl hRs hc hs hL => ?_⟩
  obtain ⟨hx, hb, hml, hrt, hown, hlk, hnm, hts, hK, hbs⟩ := id C
  have k2 := k.2.2 G p l e s m args below meth c H locs cells slots mc ms lsA C hH hS hRl (qRs_cons (show R64 (x.tmod y) from (r64_rem (qRs_head (qRs_tail hRs)) (qRs_head hRs)).2) (qRs_tail (qRs_tail hRs))) hc hs hL
  (try simp only [List.map_cons, qV_i, qV_l, qV_r, qV_n])
  refine lv_lrem hx hb hd (fun e => h0 ((r64_eq (qRs_head hRs) (y := 0) ⟨by decide, by decide⟩).mp e)) ?_
  refine W.eq ?_ k2
  simp only [List.map_cons, qV_i, qV_l, qV_r, qV_n, (r64_rem (qRs_head (qRs_tail hRs)) (qRs_head hRs)).1]
theorem r32_long {x : Int} (h : R32 x) : (Int32.ofInt x).toInt64 = Int64.ofInt x := by
  rw [← Int64.toInt_inj, Int32.toInt_toInt64, r32_to h, r64_to ⟨by have := h.1; omega, by have := h.2; omega⟩]
theorem z_i2l {x : Int} (hd : decode (qMc M) pc = .ok (.i2l, 1))  (k : qEx M (pc + 1) ls (qL x :: st) h r hr) : qEx M pc ls (qI x :: st) h r hr := by
  unfold qEx at *
  refine ⟨k.1, k.2.1, fun G p l e s m args below meth c H locs cells slots mc ms lsA C hH hS hRl hRs hc hs hL => ?_⟩
  obtain ⟨hx, hb, hml, hrt, hown, hlk, hnm, hts, hK, hbs⟩ := id C
  have k2 := k.2.2 G p l e s m args below meth c H locs cells slots mc ms lsA C hH hS hRl (qRs_cons (show R64 x from by have h9 : R32 x := qRs_head hRs; exact ⟨by have := h9.1; omega, by have := h9.2; omega⟩) (qRs_tail hRs)) hc hs hL
  (try simp only [List.map_cons, qV_i, qV_l, qV_r, qV_n])
  refine lv_i2l hx hb hd (r32_long (qRs_head hRs)) ?_
  refine W.eq ?_ k2
  simp only [List.map_cons, qV_i, qV_l, qV_r, qV_n]
theorem z_l2i {x : Int} (hd : decode (qMc M) pc = .ok (.l2i, 1))  (k : qEx M (pc + 1) ls (qI (qL2i x) :: st) h r hr) : qEx M pc ls (qL x :: st) h r hr := by
  unfold qEx at *
  refine ⟨k.1, k.2.1, fun G p l e s m args below meth c H locs cells slots mc ms lsA C hH hS hRl hRs hc hs hL => ?_⟩
  obtain ⟨hx, hb, hml, hrt, hown, hlk, hnm, hts, hK, hbs⟩ := id C
  have k2 := k.2.2 G p l e s m args below meth c H locs cells slots mc ms lsA C hH hS hRl (qRs_cons (show R32 (qL2i x) from r32_in) (qRs_tail hRs)) hc hs hL
  (try simp only [List.map_cons, qV_i, qV_l, qV_r, qV_n])
  refine lv_l2i hx hb hd rfl ?_
  refine W.eq ?_ k2
  simp only [List.map_cons, qV_i, qV_l, qV_r, qV_n, qL2i, Int32.ofInt_toInt]
theorem z_i2c {x : Int} (hd : decode (qMc M) pc = .ok (.i2c, 1))  (k : qEx M (pc + 1) ls (qI (qI2c x) :: st) h r hr) : qEx M pc ls (qI x :: st) h r hr := by
  unfold qEx at *
  refine ⟨k.1, k.2.1, fun G p l e s m args below meth c H locs cells slots mc ms lsA C hH hS hRl hRs hc hs hL => ?_⟩
  obtain ⟨hx, hb, hml, hrt, hown, hlk, hnm, hts, hK, hbs⟩ := id C
  have k2 := k.2.2 G p l e s m args below meth c H locs cells slots mc ms lsA C hH hS hRl (qRs_cons (show R32 (qI2c x) from r32_in) (qRs_tail hRs)) hc hs hL
  (try simp only [List.map_cons, qV_i, qV_l, qV_r, qV_n])
  refine lv_i2c hx hb hd rfl ?_
  refine W.eq ?_ k2
  simp only [List.map_cons, qV_i, qV_l, qV_r, qV_n, qI2c, Int32.ofInt_toInt]
theorem r64_cmp {x y : Int} (hx : R64 x) (hy : R64 y) : lg_cmp (Int64.ofInt x) (Int64.ofInt y) = Int32.ofInt (if x > y then 1 else if x = y then 0 else -1) := by
  unfold lg_cmp
  have h1 : Int64.ofInt x > Int64.ofInt y ↔ x > y := r64_lt hy hx
  have h2 : Int64.ofInt x = Int64.ofInt y ↔ x = y := r64_eq hx hy
  by_cases a : x > y
  · rw [if_pos a, if_pos (h1.mpr a)]; rfl
  · rw [if_neg a, if_neg (fun q => a (h1.mp q))]
    by_cases b : x = y
    · rw [if_pos b, if_pos (h2.mpr b)]; rfl
    · rw [if_neg b, if_neg (fun q => b (h2.mp q))]; rfl
theorem z_lcmp {x y : Int} (hd : decode (qMc M) pc = .ok (.lcmp, 1))  (k : qEx M (pc + 1) ls (qI (if x > y then 1 else if x = y then 0 else -1) :: st) h r hr) : qEx M pc ls (qL y :: qL x :: st) h r hr := by
  unfold qEx at *
  refine ⟨k.1, k.2.1, fun G p l e s m args below meth c H locs cells slots mc ms lsA C hH hS hRl hRs hc hs hL => ?_⟩
  obtain ⟨hx, hb, hml, hrt, hown, hlk, hnm, hts, hK, hbs⟩ := id C
  have k2 := k.2.2 G p l e s m args below meth c H locs cells slots mc ms lsA C hH hS hRl (qRs_cons (show R32 (if x > y then 1 else if x = y then 0 else -1) from by split; (first | omega | (split <;> omega)); (split <;> omega)) (qRs_tail (qRs_tail hRs))) hc hs hL
  (try simp only [List.map_cons, qV_i, qV_l, qV_r, qV_n])
  refine W.lcmp hx hb hd ?_
  refine W.eq ?_ k2
  simp only [List.map_cons, qV_i, qV_l, qV_r, qV_n, r64_cmp (qRs_head (qRs_tail hRs)) (qRs_head hRs)]
def qCt (v : qA) : Nat := match v with
  | some (.inr (.inl _)) => 2
  | _ => 1
theorem qCt_ok (G : qG) (v : qA) : (qV G v).category = qCt v := by
  rcases v with _ | z | z | _ | z <;> rfl
def qCs (l : List qA) : Nat := (l.map qCt).sum
theorem qCs_ok (G : qG) (l : List qA) : ((l.map (qV G)).map fun v => v.category).sum = qCs l := by
  unfold qCs
  rw [List.map_map]
  congr 1
  apply List.map_congr_left
  intro a _
  exact qCt_ok G a
theorem z_dup {a : qA} (hd : decode (qMc M) pc = .ok (.dup, 1)) (ha : qCt a = 1) (k : qEx M (pc + 1) ls (a :: a :: st) h r hr) : qEx M pc ls (a :: st) h r hr := by
  unfold qEx at *
  refine ⟨k.1, k.2.1, fun G p l e s m args below meth c H locs cells slots mc ms lsA C hH hS hRl hRs hc hs hL => ?_⟩
  obtain ⟨hx, hb, hml, hrt, hown, hlk, hnm, hts, hK, hbs⟩ := id C
  have k2 := k.2.2 G p l e s m args below meth c H locs cells slots mc ms lsA C hH hS hRl (qRs_cons (qRs_head hRs) hRs) hc hs hL
  (try simp only [List.map_cons, qV_i, qV_l, qV_r, qV_n])
  refine lv_dup hx hb hd (by rw [qCt_ok]; exact ha) ?_
  refine W.eq ?_ k2
  simp only [List.map_cons, qV_i, qV_l, qV_r, qV_n]
theorem z_pop {a : qA} (hd : decode (qMc M) pc = .ok (.pop, 1)) (ha : qCt a = 1) (k : qEx M (pc + 1) ls st h r hr) : qEx M pc ls (a :: st) h r hr := by
  unfold qEx at *
  refine ⟨k.1, k.2.1, fun G p l e s m args below meth c H locs cells slots mc ms lsA C hH hS hRl hRs hc hs hL => ?_⟩
  obtain ⟨hx, hb, hml, hrt, hown, hlk, hnm, hts, hK, hbs⟩ := id C
  have k2 := k.2.2 G p l e s m args below meth c H locs cells slots mc ms lsA C hH hS hRl (qRs_tail hRs) hc hs hL
  exact lv_pop hx hb hd (by rw [qCt_ok]; exact ha) k2
theorem z_dup2 {a b : qA} (hd : decode (qMc M) pc = .ok (.dup2, 1)) (ha : qCt a = 1) (hb2 : qCt b = 1) (k : qEx M (pc + 1) ls (a :: b :: a :: b :: st) h r hr) : qEx M pc ls (a :: b :: st) h r hr := by
  unfold qEx at *
  refine ⟨k.1, k.2.1, fun G p l e s m args below meth c H locs cells slots mc ms lsA C hH hS hRl hRs hc hs hL => ?_⟩
  obtain ⟨hx, hb, hml, hrt, hown, hlk, hnm, hts, hK, hbs⟩ := id C
  have k2 := k.2.2 G p l e s m args below meth c H locs cells slots mc ms lsA C hH hS hRl (qRs_cons (qRs_head hRs) (qRs_cons (qRs_head (qRs_tail hRs)) hRs)) hc hs hL
  (try simp only [List.map_cons, qV_i, qV_l, qV_r, qV_n])
  refine lv_dup2_11 hx hb hd (by rw [qCt_ok]; exact ha) (by rw [qCt_ok]; exact hb2) ?_
  refine W.eq ?_ k2
  simp only [List.map_cons, qV_i, qV_l, qV_r, qV_n]
theorem z_if_eq {x off : Int} (tgt : Nat) (hd : decode (qMc M) pc = .ok (.ifCond .eq off, 3)) (ht : (pc : Int) + off = (tgt : Int)) (kt : x = 0 → qEx M tgt ls st h r hr) (kf : ¬ (x = 0) → qEx M (pc + 3) ls st h r hr) : qEx M pc ls (qI x :: st) h r hr := by
  unfold qEx at *
  have k : h.1 ≤ hr.1 ∧ h.2.1 ≤ hr.2.1 := by
    by_cases hP : x = 0
    · exact ⟨(kt hP).1, (kt hP).2.1⟩
    · exact ⟨(kf hP).1, (kf hP).2.1⟩
  refine ⟨k.1, k.2, fun G p l e s m args below meth c H locs cells slots mc ms lsA C hH hS hRl hRs hc hs hL => ?_⟩
  obtain ⟨hx, hb, hml, hrt, hown, hlk, hnm, hts, hK, hbs⟩ := id C
  (try simp only [List.map_cons, qV_i, qV_l, qV_r, qV_n])
  refine lv_if_eq hx hb hd ht (fun hc9 => ?_) (fun hc9 => ?_)
  · exact (kt ((r32_eq (qRs_head hRs) r32_0).mp hc9)).2.2 G p l e s m args below meth c H locs cells slots mc ms lsA C hH hS hRl (qRs_tail hRs) hc hs hL
  · exact (kf (fun q => hc9 ((r32_eq (qRs_head hRs) r32_0).mpr q))).2.2 G p l e s m args below meth c H locs cells slots mc ms lsA C hH hS hRl (qRs_tail hRs) hc hs hL
theorem z_icmp_eq {x y off : Int} (tgt : Nat) (hd : decode (qMc M) pc = .ok (.if_icmp .eq off, 3)) (ht : (pc : Int) + off = (tgt : Int)) (kt : x = y → qEx M tgt ls st h r hr) (kf : ¬ (x = y) → qEx M (pc + 3) ls st h r hr) : qEx M pc ls (qI y :: qI x :: st) h r hr := by
  unfold qEx at *
  have k : h.1 ≤ hr.1 ∧ h.2.1 ≤ hr.2.1 := by
    by_cases hP : x = y
    · exact ⟨(kt hP).1, (kt hP).2.1⟩
    · exact ⟨(kf hP).1, (kf hP).2.1⟩
  refine ⟨k.1, k.2, fun G p l e s m args below meth c H locs cells slots mc ms lsA C hH hS hRl hRs hc hs hL => ?_⟩
  obtain ⟨hx, hb, hml, hrt, hown, hlk, hnm, hts, hK, hbs⟩ := id C
  (try simp only [List.map_cons, qV_i, qV_l, qV_r, qV_n])
  refine lv_icmp_eq hx hb hd ht (fun hc9 => ?_) (fun hc9 => ?_)
  · exact (kt ((r32_eq (qRs_head (qRs_tail hRs)) (qRs_head hRs)).mp hc9)).2.2 G p l e s m args below meth c H locs cells slots mc ms lsA C hH hS hRl (qRs_tail (qRs_tail hRs)) hc hs hL
  · exact (kf (fun q => hc9 ((r32_eq (qRs_head (qRs_tail hRs)) (qRs_head hRs)).mpr q))).2.2 G p l e s m args below meth c H locs cells slots mc ms lsA C hH hS hRl (qRs_tail (qRs_tail hRs)) hc hs hL
theorem z_if_ne {x off : Int} (tgt : Nat) (hd : decode (qMc M) pc = .ok (.ifCond .ne off, 3)) (ht : (pc : Int) + off = (tgt : Int)) (kt : x ≠ 0 → qEx M tgt ls st h r hr) (kf : ¬ (x ≠ 0) → qEx M (pc + 3) ls st h r hr) : qEx M pc ls (qI x :: st) h r hr := by
  unfold qEx at *
  have k : h.1 ≤ hr.1 ∧ h.2.1 ≤ hr.2.1 := by
    by_cases hP : x ≠ 0
    · exact ⟨(kt hP).1, (kt hP).2.1⟩
    · exact ⟨(kf hP).1, (kf hP).2.1⟩
  refine ⟨k.1, k.2, fun G p l e s m args below meth c H locs cells slots mc ms lsA C hH hS hRl hRs hc hs hL => ?_⟩
  obtain ⟨hx, hb, hml, hrt, hown, hlk, hnm, hts, hK, hbs⟩ := id C
  (try simp only [List.map_cons, qV_i, qV_l, qV_r, qV_n])
  refine lv_if_ne hx hb hd ht (fun hc9 => ?_) (fun hc9 => ?_)
  · exact (kt (fun q => hc9 ((r32_eq (qRs_head hRs) r32_0).mpr q))).2.2 G p l e s m args below meth c H locs cells slots mc ms lsA C hH hS hRl (qRs_tail hRs) hc hs hL
  · exact (kf (fun q => q ((r32_eq (qRs_head hRs) r32_0).mp hc9))).2.2 G p l e s m args below meth c H locs cells slots mc ms lsA C hH hS hRl (qRs_tail hRs) hc hs hL
theorem z_icmp_ne {x y off : Int} (tgt : Nat) (hd : decode (qMc M) pc = .ok (.if_icmp .ne off, 3)) (ht : (pc : Int) + off = (tgt : Int)) (kt : x ≠ y → qEx M tgt ls st h r hr) (kf : ¬ (x ≠ y) → qEx M (pc + 3) ls st h r hr) : qEx M pc ls (qI y :: qI x :: st) h r hr := by
  unfold qEx at *
  have k : h.1 ≤ hr.1 ∧ h.2.1 ≤ hr.2.1 := by
    by_cases hP : x ≠ y
    · exact ⟨(kt hP).1, (kt hP).2.1⟩
    · exact ⟨(kf hP).1, (kf hP).2.1⟩
  refine ⟨k.1, k.2, fun G p l e s m args below meth c H locs cells slots mc ms lsA C hH hS hRl hRs hc hs hL => ?_⟩
  obtain ⟨hx, hb, hml, hrt, hown, hlk, hnm, hts, hK, hbs⟩ := id C
  (try simp only [List.map_cons, qV_i, qV_l, qV_r, qV_n])
  refine lv_icmp_ne hx hb hd ht (fun hc9 => ?_) (fun hc9 => ?_)
  · exact (kt (fun q => hc9 ((r32_eq (qRs_head (qRs_tail hRs)) (qRs_head hRs)).mpr q))).2.2 G p l e s m args below meth c H locs cells slots mc ms lsA C hH hS hRl (qRs_tail (qRs_tail hRs)) hc hs hL
  · exact (kf (fun q => q ((r32_eq (qRs_head (qRs_tail hRs)) (qRs_head hRs)).mp hc9))).2.2 G p l e s m args below meth c H locs cells slots mc ms lsA C hH hS hRl (qRs_tail (qRs_tail hRs)) hc hs hL
theorem z_if_lt {x off : Int} (tgt : Nat) (hd : decode (qMc M) pc = .ok (.ifCond .lt off, 3)) (ht : (pc : Int) + off = (tgt : Int)) (kt : x < 0 → qEx M tgt ls st h r hr) (kf : ¬ (x < 0) → qEx M (pc + 3) ls st h r hr) : qEx M pc ls (qI x :: st) h r hr := by
  unfold qEx at *
  have k : h.1 ≤ hr.1 ∧ h.2.1 ≤ hr.2.1 := by
    by_cases hP : x < 0
    · exact ⟨(kt hP).1, (kt hP).2.1⟩
    · exact ⟨(kf hP).1, (kf hP).2.1⟩
  refine ⟨k.1, k.2, fun G p l e s m args below meth c H locs cells slots mc ms lsA C hH hS hRl hRs hc hs hL => ?_⟩
  obtain ⟨hx, hb, hml, hrt, hown, hlk, hnm, hts, hK, hbs⟩ := id C
  (try simp only [List.map_cons, qV_i, qV_l, qV_r, qV_n])
  refine lv_if_lt hx hb hd ht (fun hc9 => ?_) (fun hc9 => ?_)
  · exact (kt ((r32_lt (qRs_head hRs) r32_0).mp hc9)).2.2 G p l e s m args below meth c H locs cells slots mc ms lsA C hH hS hRl (qRs_tail hRs) hc hs hL
  · exact (kf (fun q => hc9 ((r32_lt (qRs_head hRs) r32_0).mpr q))).2.2 G p l e s m args below meth c H locs cells slots mc ms lsA C hH hS hRl (qRs_tail hRs) hc hs hL
theorem z_icmp_lt {x y off : Int} (tgt : Nat) (hd : decode (qMc M) pc = .ok (.if_icmp .lt off, 3)) (ht : (pc : Int) + off = (tgt : Int)) (kt : x < y → qEx M tgt ls st h r hr) (kf : ¬ (x < y) → qEx M (pc + 3) ls st h r hr) : qEx M pc ls (qI y :: qI x :: st) h r hr := by
  unfold qEx at *
  have k : h.1 ≤ hr.1 ∧ h.2.1 ≤ hr.2.1 := by
    by_cases hP : x < y
    · exact ⟨(kt hP).1, (kt hP).2.1⟩
    · exact ⟨(kf hP).1, (kf hP).2.1⟩
  refine ⟨k.1, k.2, fun G p l e s m args below meth c H locs cells slots mc ms lsA C hH hS hRl hRs hc hs hL => ?_⟩
  obtain ⟨hx, hb, hml, hrt, hown, hlk, hnm, hts, hK, hbs⟩ := id C
  (try simp only [List.map_cons, qV_i, qV_l, qV_r, qV_n])
  refine lv_icmp_lt hx hb hd ht (fun hc9 => ?_) (fun hc9 => ?_)
  · exact (kt ((r32_lt (qRs_head (qRs_tail hRs)) (qRs_head hRs)).mp hc9)).2.2 G p l e s m args below meth c H locs cells slots mc ms lsA C hH hS hRl (qRs_tail (qRs_tail hRs)) hc hs hL
  · exact (kf (fun q => hc9 ((r32_lt (qRs_head (qRs_tail hRs)) (qRs_head hRs)).mpr q))).2.2 G p l e s m args below meth c H locs cells slots mc ms lsA C hH hS hRl (qRs_tail (qRs_tail hRs)) hc hs hL
theorem z_if_ge {x off : Int} (tgt : Nat) (hd : decode (qMc M) pc = .ok (.ifCond .ge off, 3)) (ht : (pc : Int) + off = (tgt : Int)) (kt : x ≥ 0 → qEx M tgt ls st h r hr) (kf : ¬ (x ≥ 0) → qEx M (pc + 3) ls st h r hr) : qEx M pc ls (qI x :: st) h r hr := by
  unfold qEx at *
  have k : h.1 ≤ hr.1 ∧ h.2.1 ≤ hr.2.1 := by
    by_cases hP : x ≥ 0
    · exact ⟨(kt hP).1, (kt hP).2.1⟩
    · exact ⟨(kf hP).1, (kf hP).2.1⟩
  refine ⟨k.1, k.2, fun G p l e s m args below meth c H locs cells slots mc ms lsA C hH hS hRl hRs hc hs hL => ?_⟩
  obtain ⟨hx, hb, hml, hrt, hown, hlk, hnm, hts, hK, hbs⟩ := id C
  (try simp only [List.map_cons, qV_i, qV_l, qV_r, qV_n])
  refine lv_if_ge hx hb hd ht (fun hc9 => ?_) (fun hc9 => ?_)
  · exact (kt ((r32_le r32_0 (qRs_head hRs)).mp hc9)).2.2 G p l e s m args below meth c H locs cells slots mc ms lsA C hH hS hRl (qRs_tail hRs) hc hs hL
  · exact (kf (fun q => hc9 ((r32_le r32_0 (qRs_head hRs)).mpr q))).2.2 G p l e s m args below meth c H locs cells slots mc ms lsA C hH hS hRl (qRs_tail hRs) hc hs hL
theorem z_icmp_ge {x y off : Int} (tgt : Nat) (hd : decode (qMc M) pc = .ok (.if_icmp .ge off, 3)) (ht : (pc : Int) + off = (tgt : Int)) (kt : x ≥ y → qEx M tgt ls st h r hr) (kf : ¬ (x ≥ y) → qEx M (pc + 3) ls st h r hr) : qEx M pc ls (qI y :: qI x :: st) h r hr := by
  unfold qEx at *
  have k : h.1 ≤ hr.1 ∧ h.2.1 ≤ hr.2.1 := by
    by_cases hP : x ≥ y
    · exact ⟨(kt hP).1, (kt hP).2.1⟩
    · exact ⟨(kf hP).1, (kf hP).2.1⟩
  refine ⟨k.1, k.2, fun G p l e s m args below meth c H locs cells slots mc ms lsA C hH hS hRl hRs hc hs hL => ?_⟩
  obtain ⟨hx, hb, hml, hrt, hown, hlk, hnm, hts, hK, hbs⟩ := id C
  (try simp only [List.map_cons, qV_i, qV_l, qV_r, qV_n])
  refine lv_icmp_ge hx hb hd ht (fun hc9 => ?_) (fun hc9 => ?_)
  · exact (kt ((r32_le (qRs_head hRs) (qRs_head (qRs_tail hRs))).mp hc9)).2.2 G p l e s m args below meth c H locs cells slots mc ms lsA C hH hS hRl (qRs_tail (qRs_tail hRs)) hc hs hL
  · exact (kf (fun q => hc9 ((r32_le (qRs_head hRs) (qRs_head (qRs_tail hRs))).mpr q))).2.2 G p l e s m args below meth c H locs cells slots mc ms lsA C hH hS hRl (qRs_tail (qRs_tail hRs)) hc hs hL
theorem z_if_gt {x off : Int} (tgt : Nat) (hd : decode (qMc M) pc = .ok (.ifCond .gt off, 3)) (ht : (pc : Int) + off = (tgt : Int)) (kt : x > 0 → qEx M tgt ls st h r hr) (kf : ¬ (x > 0) → qEx M (pc + 3) ls st h r hr) : qEx M pc ls (qI x :: st) h r hr := by
  unfold qEx at *
  have k : h.1 ≤ hr.1 ∧ h.2.1 ≤ hr.2.1 := by
    by_cases hP : x > 0
    · exact ⟨(kt hP).1, (kt hP).2.1⟩
    · exact ⟨(kf hP).1, (kf hP).2.1⟩
  refine ⟨k.1, k.2, fun G p l e s m args below meth c H locs cells slots mc ms lsA C hH hS hRl hRs hc hs hL => ?_⟩
  obtain ⟨hx, hb, hml, hrt, hown, hlk, hnm, hts, hK, hbs⟩ := id C
  (try simp only [List.map_cons, qV_i, qV_l, qV_r, qV_n])
  refine lv_if_gt hx hb hd ht (fun hc9 => ?_) (fun hc9 => ?_)
  · exact (kt ((r32_lt r32_0 (qRs_head hRs)).mp hc9)).2.2 G p l e s m args below meth c H locs cells slots mc ms lsA C hH hS hRl (qRs_tail hRs) hc hs hL
  · exact (kf (fun q => hc9 ((r32_lt r32_0 (qRs_head hRs)).mpr q))).2.2 G p l e s m args below meth c H locs cells slots mc ms lsA C hH hS hRl (qRs_tail hRs) hc hs hL
theorem z_icmp_gt {x y off : Int} (tgt : Nat) (hd : decode (qMc M) pc = .ok (.if_icmp .gt off, 3)) (ht : (pc : Int) + off = (tgt : Int)) (kt : x > y → qEx M tgt ls st h r hr) (kf : ¬ (x > y) → qEx M (pc + 3) ls st h r hr) : qEx M pc ls (qI y :: qI x :: st) h r hr := by
  unfold qEx at *
  have k : h.1 ≤ hr.1 ∧ h.2.1 ≤ hr.2.1 := by
    by_cases hP : x > y
    · exact ⟨(kt hP).1, (kt hP).2.1⟩
    · exact ⟨(kf hP).1, (kf hP).2.1⟩
  refine ⟨k.1, k.2, fun G p l e s m args below meth c H locs cells slots mc ms lsA C hH hS hRl hRs hc hs hL => ?_⟩
  obtain ⟨hx, hb, hml, hrt, hown, hlk, hnm, hts, hK, hbs⟩ := id C
  (try simp only [List.map_cons, qV_i, qV_l, qV_r, qV_n])
  refine lv_icmp_gt hx hb hd ht (fun hc9 => ?_) (fun hc9 => ?_)
  · exact (kt ((r32_lt (qRs_head hRs) (qRs_head (qRs_tail hRs))).mp hc9)).2.2 G p l e s m args below meth c H locs cells slots mc ms lsA C hH hS hRl (qRs_tail (qRs_tail hRs)) hc hs hL
  · exact (kf (fun q => hc9 ((r32_lt (qRs_head hRs) (qRs_head (qRs_tail hRs))).mpr q))).2.2 G p l e s m args below meth c H locs cells slots mc ms lsA C hH hS hRl (qRs_tail (qRs_tail hRs)) hc hs hL
theorem z_if_le {x off : Int} (tgt : Nat) (hd : decode (qMc M) pc = .ok (.ifCond .le off, 3)) (ht : (pc : Int) + off = (tgt : Int)) (kt : x ≤ 0 → qEx M tgt ls st h r hr) (kf : ¬ (x ≤ 0) → qEx M (pc + 3) ls st h r hr) : qEx M pc ls (qI x :: st) h r hr := by
  unfold qEx at *
  have k : h.1 ≤ hr.1 ∧ h.2.1 ≤ hr.2.1 := by
    by_cases hP : x ≤ 0
    · exact ⟨(kt hP).1, (kt hP).2.1⟩
    · exact ⟨(kf hP).1, (kf hP).2.1⟩
  refine ⟨k.1, k.2, fun G p l e s m args below meth c H locs cells slots mc ms lsA C hH hS hRl hRs hc hs hL => ?_⟩
  obtain ⟨hx, hb, hml, hrt, hown, hlk, hnm, hts, hK, hbs⟩ := id C
  (try simp only [List.map_cons, qV_i, qV_l, qV_r, qV_n])
  refine lv_if_le hx hb hd ht (fun hc9 => ?_) (fun hc9 => ?_)
  · exact (kt ((r32_le (qRs_head hRs) r32_0).mp hc9)).2.2 G p l e s m args below meth c H locs cells slots mc ms lsA C hH hS hRl (qRs_tail hRs) hc hs hL
  · exact (kf (fun q => hc9 ((r32_le (qRs_head hRs) r32_0).mpr q))).2.2 G p l e s m args below meth c H locs cells slots mc ms lsA C hH hS hRl (qRs_tail hRs) hc hs hL
theorem z_icmp_le {x y off : Int} (tgt : Nat) (hd : decode (qMc M) pc = .ok (.if_icmp .le off, 3)) (ht : (pc : Int) + off = (tgt : Int)) (kt : x ≤ y → qEx M tgt ls st h r hr) (kf : ¬ (x ≤ y) → qEx M (pc + 3) ls st h r hr) : qEx M pc ls (qI y :: qI x :: st) h r hr := by
  unfold qEx at *
  have k : h.1 ≤ hr.1 ∧ h.2.1 ≤ hr.2.1 := by
    by_cases hP : x ≤ y
    · exact ⟨(kt hP).1, (kt hP).2.1⟩
    · exact ⟨(kf hP).1, (kf hP).2.1⟩
  refine ⟨k.1, k.2, fun G p l e s m args below meth c H locs cells slots mc ms lsA C hH hS hRl hRs hc hs hL => ?_⟩
  obtain ⟨hx, hb, hml, hrt, hown, hlk, hnm, hts, hK, hbs⟩ := id C
  (try simp only [List.map_cons, qV_i, qV_l, qV_r, qV_n])
  refine lv_icmp_le hx hb hd ht (fun hc9 => ?_) (fun hc9 => ?_)
  · exact (kt ((r32_le (qRs_head (qRs_tail hRs)) (qRs_head hRs)).mp hc9)).2.2 G p l e s m args below meth c H locs cells slots mc ms lsA C hH hS hRl (qRs_tail (qRs_tail hRs)) hc hs hL
  · exact (kf (fun q => hc9 ((r32_le (qRs_head (qRs_tail hRs)) (qRs_head hRs)).mpr q))).2.2 G p l e s m args below meth c H locs cells slots mc ms lsA C hH hS hRl (qRs_tail (qRs_tail hRs)) hc hs hL
theorem z_goto {off : Int} (tgt : Nat) (hd : decode (qMc M) pc = .ok (.goto off, 3)) (ht : (pc : Int) + off = (tgt : Int)) (k : qEx M tgt ls st h r hr) : qEx M pc ls st h r hr := by
  unfold qEx at *
  refine ⟨k.1, k.2.1, fun G p l e s m args below meth c H locs cells slots mc ms lsA C hH hS hRl hRs hc hs hL => ?_⟩
  obtain ⟨hx, hb, hml, hrt, hown, hlk, hnm, hts, hK, hbs⟩ := id C
  exact lv_goto hx hb hd ht (k.2.2 G p l e s m args below meth c H locs cells slots mc ms lsA C hH hS hRl hRs hc hs hL)
theorem z_tableOut {dflt lo hi x : Int} {offs : Array Int} {len : Nat} (tgt : Nat) (hd : decode (qMc M) pc = .ok (.tableswitch dflt lo hi offs, len)) (hx9 : x < lo ∨ hi < x) (ht : (pc : Int) + dflt = (tgt : Int)) (k : qEx M tgt ls st h r hr) : qEx M pc ls (qI x :: st) h r hr := by
  unfold qEx at *
  refine ⟨k.1, k.2.1, fun G p l e s m args below meth c H locs cells slots mc ms lsA C hH hS hRl hRs hc hs hL => ?_⟩
  obtain ⟨hx, hb, hml, hrt, hown, hlk, hnm, hts, hK, hbs⟩ := id C
  exact lv_tableOut hx hb hd (by rw [r32_to (qRs_head hRs)]; exact hx9) ht (k.2.2 G p l e s m args below meth c H locs cells slots mc ms lsA C hH hS hRl (qRs_tail hRs) hc hs hL)
theorem z_tableIn {dflt lo hi x off : Int} {offs : Array Int} {len : Nat} (tgt : Nat) (hd : decode (qMc M) pc = .ok (.tableswitch dflt lo hi offs, len)) (hx1 : lo ≤ x) (hx2 : x ≤ hi) (ho : offs[(x - lo).toNat]? = some off) (ht : (pc : Int) + off = (tgt : Int)) (k : qEx M tgt ls st h r hr) : qEx M pc ls (qI x :: st) h r hr := by
  unfold qEx at *
  refine ⟨k.1, k.2.1, fun G p l e s m args below meth c H locs cells slots mc ms lsA C hH hS hRl hRs hc hs hL => ?_⟩
  obtain ⟨hx, hb, hml, hrt, hown, hlk, hnm, hts, hK, hbs⟩ := id C
  exact lv_tableIn hx hb hd (by rw [r32_to (qRs_head hRs)]; omega) (by rw [r32_to (qRs_head hRs)]; omega) (by rw [r32_to (qRs_head hRs)]; exact ho) ht (k.2.2 G p l e s m args below meth c H locs cells slots mc ms lsA C hH hS hRl (qRs_tail hRs) hc hs hL)
theorem z_lookup {dflt x off : Int} {ps : Array (Int × Int)} {len : Nat} (tgt : Nat) (hd : decode (qMc M) pc = .ok (.lookupswitch dflt ps, len)) (hp : (ps.toList.zip (ps.toList.drop 1)).all (fun (a, next) => a.1 < next.1) = true) (ho : Op.lookupswitch.offset ps.toList dflt x = off) (ht : (pc : Int) + off = (tgt : Int)) (k : qEx M tgt ls st h r hr) : qEx M pc ls (qI x :: st) h r hr := by
  unfold qEx at *
  refine ⟨k.1, k.2.1, fun G p l e s m args below meth c H locs cells slots mc ms lsA C hH hS hRl hRs hc hs hL => ?_⟩
  obtain ⟨hx, hb, hml, hrt, hown, hlk, hnm, hts, hK, hbs⟩ := id C
  exact lv_lookup hx hb hd hp (by rw [r32_to (qRs_head hRs)]; exact ho) ht (k.2.2 G p l e s m args below meth c H locs cells slots mc ms lsA C hH hS hRl (qRs_tail hRs) hc hs hL)
theorem z_qQ {G : qG} {args : Array Value} {s t : State} {H : Heap} {locs : List Loc} {v : Option qA} (hv : ∀ w, v = some w → qRv w) (hH : qHR G h H) (hS : va_S (qFree G) s.heap H locs) (ht : t.heap = H) : qQ G v h args s (.returned (v.map (qV G))) t := ⟨rfl, hv, by rw [ht]; exact hH, hS.F ht⟩
theorem z_ireturn {x : Int} (hd : decode (qMc M) pc = .ok (.ireturn, 1)) (hty : qMr M = some .int) : qEx M pc ls [qI x] h (some (qI x)) h := by
  unfold qEx
  refine ⟨Nat.le_refl _, Nat.le_refl _, fun G p l e s m args below meth c H locs cells slots mc ms lsA C hH hS hRl hRs hc hs hL => ?_⟩
  obtain ⟨hx, hb, hml, hrt, hown, hlk, hnm, hts, hK, hbs⟩ := id C
  refine W.widen (k := mc) (n := ms) (by omega) (by omega) ?_
  exact W.iret hx hb (hrt.trans hty) (fun t ht hW => z_qQ (v := some (qI x)) (fun w e => by cases e; exact qRs_head hRs) hH hS ht) hS.2.2 hd hlk
theorem z_zreturn {x : Int} (hd : decode (qMc M) pc = .ok (.ireturn, 1)) (hty : qMr M = some .boolean) (h01 : x = 0 ∨ x = 1) : qEx M pc ls [qI x] h (some (qI x)) h := by
  unfold qEx
  refine ⟨Nat.le_refl _, Nat.le_refl _, fun G p l e s m args below meth c H locs cells slots mc ms lsA C hH hS hRl hRs hc hs hL => ?_⟩
  obtain ⟨hx, hb, hml, hrt, hown, hlk, hnm, hts, hK, hbs⟩ := id C
  refine W.widen (k := mc) (n := ms) (by omega) (by omega) ?_
  exact W.zret hx hb (hrt.trans hty) (by rcases h01 with rfl | rfl <;> rfl) (fun t ht hW => z_qQ (v := some (qI x)) (fun w e => by cases e; exact qRs_head hRs) hH hS ht) hS.2.2 hd hlk
theorem z_lreturn {x : Int} (hd : decode (qMc M) pc = .ok (.lreturn, 1)) (hty : qMr M = some .long) : qEx M pc ls [qL x] h (some (qL x)) h := by
  unfold qEx
  refine ⟨Nat.le_refl _, Nat.le_refl _, fun G p l e s m args below meth c H locs cells slots mc ms lsA C hH hS hRl hRs hc hs hL => ?_⟩
  obtain ⟨hx, hb, hml, hrt, hown, hlk, hnm, hts, hK, hbs⟩ := id C
  refine W.widen (k := mc) (n := ms) (by omega) (by omega) ?_
  exact W.lret hx hb (hrt.trans hty) (fun t ht hW => z_qQ (v := some (qL x)) (fun w e => by cases e; exact qRs_head hRs) hH hS ht) hS.2.2 hd hlk
theorem z_areturn {x : Nat} {n : String} (hd : decode (qMc M) pc = .ok (.areturn, 1)) (hty : qMr M = some (.object n)) : qEx M pc ls [qR x] h (some (qR x)) h := by
  unfold qEx
  refine ⟨Nat.le_refl _, Nat.le_refl _, fun G p l e s m args below meth c H locs cells slots mc ms lsA C hH hS hRl hRs hc hs hL => ?_⟩
  obtain ⟨hx, hb, hml, hrt, hown, hlk, hnm, hts, hK, hbs⟩ := id C
  refine W.widen (k := mc) (n := ms) (by omega) (by omega) ?_
  exact W.aret hx hb (hrt.trans hty) (Or.inl ⟨_, rfl⟩) (Or.inr ⟨_, rfl⟩) (fun t ht hW => z_qQ (v := some (qR x)) (fun w e => by cases e; trivial) hH hS ht) hS.2.2 hd hlk
theorem z_return (hd : decode (qMc M) pc = .ok (.return_, 1)) (hty : qMr M = none) : qEx M pc ls [] h none h := by
  unfold qEx
  refine ⟨Nat.le_refl _, Nat.le_refl _, fun G p l e s m args below meth c H locs cells slots mc ms lsA C hH hS hRl hRs hc hs hL => ?_⟩
  obtain ⟨hx, hb, hml, hrt, hown, hlk, hnm, hts, hK, hbs⟩ := id C
  refine W.widen (k := mc) (n := ms) (by omega) (by omega) ?_
  exact W.vret hx hb (hrt.trans hty) (fun t ht hW => z_qQ (v := none) (fun w e => by cases e) hH hS ht) hS.2.2 hd hlk
end Rules
