/-! ===== ROWS FOR WALKS: answers as equations, joins, booleans, loops ===== -/
noncomputable def qif {α : Type} (P : Prop) (a b : α) : α := @ite α P (Classical.propDecidable P) a b
theorem qif_t {α : Type} {P : Prop} {a b : α} (h : P) : qif P a b = a := by unfold qif; exact if_pos h
theorem qif_f {α : Type} {P : Prop} {a b : α} (h : ¬ P) : qif P a b = b := by unfold qif; exact if_neg h
theorem qif_eq {α : Type} {P : Prop} [hP : Decidable P] {a b : α} : qif P a b = if P then a else b := by
  by_cases h : P
  · rw [qif_t h, if_pos h]
  · rw [qif_f h, if_neg h]
noncomputable def qb (P : Prop) : Int := qif P 1 0
theorem qb_t {P : Prop} (h : P) : qb P = 1 := qif_t h
theorem qb_f {P : Prop} (h : ¬ P) : qb P = 0 := qif_f h
theorem qb_01 (P : Prop) : qb P = 0 ∨ qb P = 1 := by
  by_cases h : P
  · exact Or.inr (qb_t h)
  · exact Or.inl (qb_f h)
theorem qb_iff {P : Prop} : qb P = 1 ↔ P := by
  by_cases h : P
  · rw [qb_t h]; exact ⟨fun _ => h, fun _ => rfl⟩
  · rw [qb_f h]; exact ⟨fun e => absurd e (by decide), fun q => absurd q h⟩
theorem qb_congr {P Q : Prop} (h : P ↔ Q) : qb P = qb Q := by
  by_cases p : P
  · rw [qb_t p, qb_t (h.mp p)]
  · rw [qb_f p, qb_f (fun q => p (h.mpr q))]
theorem qb_bd (P : Prop) : 0 ≤ qb P ∧ qb P ≤ 1 := by rcases qb_01 P with h | h <;> rw [h] <;> decide
theorem qc {a b : qA} {l l' : List qA} (h : a = b) (h2 : l = l') : a :: l = b :: l' := by rw [h, h2]
theorem qi {x y : Int} (h : x = y) : qI x = qI y := by rw [h]
theorem ql {x y : Int} (h : x = y) : qL x = qL y := by rw [h]
theorem qrr {x y : Nat} (h : x = y) : qR x = qR y := by rw [h]
section MoreRows
variable {M : qM} {pc : Nat} {ls st : List qA} {h hr : qH} {r : Option qA}
theorem z_eq {ls' st' : List qA} {h' : qH} (hl : ls = ls') (hs : st = st') (hh : h = h') (k : qEx M pc ls' st' h' r hr) : qEx M pc ls st h r hr := by subst hl; subst hs; subst hh; exact k
theorem q_gen (f : ∀ (r' : Option qA) (hr' : qH), r' = r → hr' = hr → qEx M pc ls st h r' hr') : qEx M pc ls st h r hr := f r hr rfl rfl
theorem z_iret {x : Int} (hd : decode (qMc M) pc = .ok (.ireturn, 1)) (hty : qMr M = some .int) (er : r = some (qI x)) (eh : hr = h) : qEx M pc ls [qI x] h r hr := by subst er; subst eh; exact z_ireturn hd hty
theorem z_zret {x : Int} (hd : decode (qMc M) pc = .ok (.ireturn, 1)) (hty : qMr M = some .boolean) (h01 : x = 0 ∨ x = 1) (er : r = some (qI x)) (eh : hr = h) : qEx M pc ls [qI x] h r hr := by subst er; subst eh; exact z_zreturn hd hty h01
theorem z_lret {x : Int} (hd : decode (qMc M) pc = .ok (.lreturn, 1)) (hty : qMr M = some .long) (er : r = some (qL x)) (eh : hr = h) : qEx M pc ls [qL x] h r hr := by subst er; subst eh; exact z_lreturn hd hty
theorem z_aret {x : Nat} {n : String} (hd : decode (qMc M) pc = .ok (.areturn, 1)) (hty : qMr M = some (.object n)) (er : r = some (qR x)) (eh : hr = h) : qEx M pc ls [qR x] h r hr := by subst er; subst eh; exact z_areturn hd hty
theorem z_vret (hd : decode (qMc M) pc = .ok (.return_, 1)) (hty : qMr M = none) (er : r = none) (eh : hr = h) : qEx M pc ls [] h r hr := by subst er; subst eh; exact z_return hd hty
theorem z_ifeqB {off : Int} {P : Prop} (tgt : Nat) (hd : decode (qMc M) pc = .ok (.ifCond .eq off, 3)) (ht : (pc : Int) + off = (tgt : Int)) (kt : ¬ P → qEx M tgt ls st h r hr) (kf : P → qEx M (pc + 3) ls st h r hr) : qEx M pc ls (qI (qb P) :: st) h r hr :=
  z_if_eq tgt hd ht (fun e => kt (fun p => by rw [qb_t p] at e; cases e)) (fun e => kf (Classical.byContradiction fun p => e (qb_f p)))
theorem z_ifneB {off : Int} {P : Prop} (tgt : Nat) (hd : decode (qMc M) pc = .ok (.ifCond .ne off, 3)) (ht : (pc : Int) + off = (tgt : Int)) (kt : P → qEx M tgt ls st h r hr) (kf : ¬ P → qEx M (pc + 3) ls st h r hr) : qEx M pc ls (qI (qb P) :: st) h r hr :=
  z_if_ne tgt hd ht (fun e => kt (Classical.byContradiction fun p => e (qb_f p))) (fun e => kf (fun p => e (by rw [qb_t p]; decide)))
theorem z_ild {a n : Nat} {i : Int} {f : Nat → Int} (j : Nat) (hd : decode (qMc M) pc = .ok (.iaload, 1)) (he : h.2.2 a = qAr 0 n f) (hj : i = (j : Int)) (h1 : j < n) (k : qEx M (pc + 1) ls (qI (f j) :: st) h r hr) : qEx M pc ls (qI i :: qR a :: st) h r hr := by
  subst hj
  exact z_iaload hd he (Int.natCast_nonneg j) (Int.ofNat_lt.mpr h1) (by rw [Int.toNat_natCast]; exact k)
theorem z_lld {a n : Nat} {i : Int} {f : Nat → Int} (j : Nat) (hd : decode (qMc M) pc = .ok (.laload, 1)) (he : h.2.2 a = qAr 1 n f) (hj : i = (j : Int)) (h1 : j < n) (k : qEx M (pc + 1) ls (qL (f j) :: st) h r hr) : qEx M pc ls (qI i :: qR a :: st) h r hr := by
  subst hj
  exact z_laload hd he (Int.natCast_nonneg j) (Int.ofNat_lt.mpr h1) (by rw [Int.toNat_natCast]; exact k)
theorem z_bld {a n : Nat} {i : Int} {f : Nat → Int} (j : Nat) (hd : decode (qMc M) pc = .ok (.baload, 1)) (he : h.2.2 a = qAr 2 n f) (hj : i = (j : Int)) (h1 : j < n) (k : qEx M (pc + 1) ls (qI (f j) :: st) h r hr) : qEx M pc ls (qI i :: qR a :: st) h r hr := by
  subst hj
  exact z_baload hd he (Int.natCast_nonneg j) (Int.ofNat_lt.mpr h1) (by rw [Int.toNat_natCast]; exact k)
theorem z_ist {a n : Nat} {i v : Int} {f : Nat → Int} (j : Nat) (hd : decode (qMc M) pc = .ok (.iastore, 1)) (he : h.2.2 a = qAr 0 n f) (ha : a ≠ 1) (hj : i = (j : Int)) (h1 : j < n) (k : qEx M (pc + 1) ls st (qset h a (qAr 0 n (qup f j v))) r hr) : qEx M pc ls (qI v :: qI i :: qR a :: st) h r hr := by
  subst hj
  exact z_iastore hd he ha (Int.natCast_nonneg j) (Int.ofNat_lt.mpr h1) (by rw [Int.toNat_natCast]; exact k)
theorem z_lst {a n : Nat} {i v : Int} {f : Nat → Int} (j : Nat) (hd : decode (qMc M) pc = .ok (.lastore, 1)) (he : h.2.2 a = qAr 1 n f) (ha : a ≠ 1) (hj : i = (j : Int)) (h1 : j < n) (k : qEx M (pc + 1) ls st (qset h a (qAr 1 n (qup f j v))) r hr) : qEx M pc ls (qL v :: qI i :: qR a :: st) h r hr := by
  subst hj
  exact z_lastore hd he ha (Int.natCast_nonneg j) (Int.ofNat_lt.mpr h1) (by rw [Int.toNat_natCast]; exact k)
theorem z_bst {a n : Nat} {i v : Int} {f : Nat → Int} (j : Nat) (hd : decode (qMc M) pc = .ok (.bastore, 1)) (he : h.2.2 a = qAr 2 n f) (ha : a ≠ 1) (hj : i = (j : Int)) (h1 : j < n) (hv : v = 0 ∨ v = 1) (k : qEx M (pc + 1) ls st (qset h a (qAr 2 n (qup f j v))) r hr) : qEx M pc ls (qI v :: qI i :: qR a :: st) h r hr := by
  subst hj
  exact z_bastore hd he ha (Int.natCast_nonneg j) (Int.ofNat_lt.mpr h1) hv (by rw [Int.toNat_natCast]; exact k)
theorem z_ald {a n b c0 t0 : Nat} {C0 : String} {i : Int} {f : Nat → Option Nat} (j : Nat) (hd : decode (qMc M) pc = .ok (.aaload, 1)) (hq : qRt c0 t0 C0) (he : h.2.2 a = qRr c0 n f) (hj : i = (j : Int)) (h1 : j < n) (hf : f j = some b) (k : qEx M (pc + 1) ls (qR b :: st) h r hr) : qEx M pc ls (qI i :: qR a :: st) h r hr := by
  subst hj
  exact z_aaload hd hq he (Int.natCast_nonneg j) (Int.ofNat_lt.mpr h1) (by rw [Int.toNat_natCast]; exact hf) k
/-- a loop that counts: L and H are the locals and the heap at its head, P what is known there -/
theorem z_for (n : Nat) (L : Nat → List qA) (Hh : Nat → qH) (P : Nat → Prop) (h0 : P 0) (step : ∀ i, i < n → P i → (P (i + 1) → qEx M pc (L (i + 1)) st (Hh (i + 1)) r hr) → qEx M pc (L i) st (Hh i) r hr) (fin : P n → qEx M pc (L n) st (Hh n) r hr) : qEx M pc (L 0) st (Hh 0) r hr := by
  have go : ∀ k i, i + k = n → P i → qEx M pc (L i) st (Hh i) r hr := by
    intro k
    induction k with
    | zero => intro i hi hp; have : i = n := by omega
              subst this; exact fin hp
    | succ k ih => intro i hi hp; exact step i (by omega) hp (fun hp2 => ih (i + 1) (by omega) hp2)
  exact go n 0 (by omega) h0
end MoreRows
/-- what a constructor or a call leaves alone: all cells outside of lo .. hi - 1 -/
def qSm (lo hi : Nat) (h h' : qH) : Prop := h'.1 = h.1 ∧ h'.2.1 = h.2.1 ∧ ∀ a, (a < lo ∨ hi ≤ a) → h'.2.2 a = h.2.2 a
theorem qSm_rf (lo hi : Nat) (h : qH) : qSm lo hi h h := ⟨rfl, rfl, fun _ _ => rfl⟩
theorem qSm_set {lo hi : Nat} {h h' : qH} {a : Nat} {c : qC} (hs : qSm lo hi h h') (h1 : lo ≤ a) (h2 : a < hi) : qSm lo hi h (qset h' a c) := ⟨hs.1, hs.2.1, fun b hb => (qset_ne (by omega)).trans (hs.2.2 b hb)⟩
theorem qSm_tr {lo hi : Nat} {h h' h'' : qH} (h1 : qSm lo hi h h') (h2 : qSm lo hi h' h'') : qSm lo hi h h'' := ⟨h2.1.trans h1.1, h2.2.1.trans h1.2.1, fun b hb => (h2.2.2 b hb).trans (h1.2.2 b hb)⟩
theorem qSm_wd {lo hi lo' hi' : Nat} {h h' : qH} (hs : qSm lo hi h h') (h1 : lo' ≤ lo) (h2 : hi ≤ hi') : qSm lo' hi' h h' := ⟨hs.1, hs.2.1, fun b hb => hs.2.2 b (by omega)⟩
theorem q_nz {G : qG} {x : Int} (h : x = 0 ∨ x = 1) : narrow .boolean (qV G (qI x)) = qV G (qI x) := by rcases h with rfl | rfl <;> rfl
theorem q_fz {G : qG} {x : Int} (h : x = 0 ∨ x = 1) : fits .boolean (qV G (qI x)) = true := by rcases h with rfl | rfl <;> rfl
section CallWraps
variable {M : qM} {pc : Nat} {ls st : List qA} {h hr : qH} {r : Option qA}
theorem z_cs {M1 : qM} {n idx : Nat} {sa : List qA} {v : qA} {h1 : qH} (hd : decode (qMc M) pc = .ok (.invokestatic idx, 3)) (hl : qLs (qMy M).cls idx (qMy M1)) (hM : qMk M1 n) (args : List qA) (hsa : sa = args.reverse ++ st) (hn : args.length = n) (hlen : (qFl args).length ≤ qMl M1) (hf : qMf M1 + 1 ≤ qMf M) (hw : 8 + (qMl M1 + 11) + qMw M1 ≤ qMw M) (hcs : qCs st ≤ 8)
    (hk : qEx M1 0 (qEn (qMl M1) args) [] h (some v) h1) (k : qEx M (pc + 3) ls (v :: st) h1 r hr) : qEx M pc ls sa h r hr := z_callS (args := []) hd hl hM args hsa hn hlen hf hw hcs hk k
theorem z_cs0 {M1 : qM} {n idx : Nat} {sa : List qA} {h1 : qH} (hd : decode (qMc M) pc = .ok (.invokestatic idx, 3)) (hl : qLs (qMy M).cls idx (qMy M1)) (hM : qMk M1 n) (args : List qA) (hsa : sa = args.reverse ++ st) (hn : args.length = n) (hlen : (qFl args).length ≤ qMl M1) (hf : qMf M1 + 1 ≤ qMf M) (hw : 8 + (qMl M1 + 11) + qMw M1 ≤ qMw M) (hcs : qCs st ≤ 8)
    (hk : qEx M1 0 (qEn (qMl M1) args) [] h none h1) (k : qEx M (pc + 3) ls st h1 r hr) : qEx M pc ls sa h r hr := z_callS (args := []) hd hl hM args hsa hn hlen hf hw hcs hk k
theorem z_cv {M1 : qM} {n idx b ci : Nat} {sa fs : List qA} {v : qA} {h1 : qH} (hd : decode (qMc M) pc = .ok (.invokevirtual idx, 3)) (hl : qLv (qMy M).cls idx (qMy M1)) (hM : qMk M1 n) (args : List qA) (hsa : sa = args.reverse ++ qR b :: st) (hn : args.length = n) (he : h.2.2 b = qOb ci fs) (hci : ∃ T N, vwCl[ci]? = some ((qMy M1).cls, T, N)) (hlen : (qFl (qR b :: args)).length ≤ qMl M1) (hf : qMf M1 + 1 ≤ qMf M) (hw : 8 + (qMl M1 + 11) + qMw M1 ≤ qMw M) (hcs : qCs st ≤ 8)
    (hk : qEx M1 0 (qEn (qMl M1) (qR b :: args)) [] h (some v) h1) (k : qEx M (pc + 3) ls (v :: st) h1 r hr) : qEx M pc ls sa h r hr := z_callV hd hl hM args hsa hn he hci hlen hf hw hcs hk k
theorem z_cv0 {M1 : qM} {n idx b ci : Nat} {sa fs : List qA} {h1 : qH} (hd : decode (qMc M) pc = .ok (.invokevirtual idx, 3)) (hl : qLv (qMy M).cls idx (qMy M1)) (hM : qMk M1 n) (args : List qA) (hsa : sa = args.reverse ++ qR b :: st) (hn : args.length = n) (he : h.2.2 b = qOb ci fs) (hci : ∃ T N, vwCl[ci]? = some ((qMy M1).cls, T, N)) (hlen : (qFl (qR b :: args)).length ≤ qMl M1) (hf : qMf M1 + 1 ≤ qMf M) (hw : 8 + (qMl M1 + 11) + qMw M1 ≤ qMw M) (hcs : qCs st ≤ 8)
    (hk : qEx M1 0 (qEn (qMl M1) (qR b :: args)) [] h none h1) (k : qEx M (pc + 3) ls st h1 r hr) : qEx M pc ls sa h r hr := z_callV hd hl hM args hsa hn he hci hlen hf hw hcs hk k
end CallWraps
theorem z_alen1 {M : qM} {pc : Nat} {ls st : List qA} {h hr : qH} {r : Option qA} {a n : Nat} {f : Nat → Int} (hd : decode (qMc M) pc = .ok (.arraylength, 1)) (he : h.2.2 a = qAr 1 n f) (hn : n ≤ 1000000) (k : qEx M (pc + 1) ls (qI n :: st) h r hr) : qEx M pc ls (qR a :: st) h r hr := by
  unfold qEx at *
  refine ⟨k.1, k.2.1, fun G p l e s m args below meth c H locs cells slots mc ms lsA C hH hS hRl hRs hc hs hL => ?_⟩
  obtain ⟨hx, hb, hml, hrt, hown, hlk, hnm, hts, hK, hbs⟩ := id C
  have k2 := k.2.2 G p l e s m args below meth c H locs cells slots mc ms lsA C hH hS hRl (qRs_cons (show R32 n from ⟨by omega, by omega⟩) (qRs_tail hRs)) hc hs hL
  have ha : a ≠ 1 := by
    intro e9
    subst e9
    obtain ⟨n2, f2, e1⟩ := hH.1.2.2.2.2
    rw [he] at e1
    cases e1
  obtain ⟨ha2, ha1⟩ := qHR_gea hH he ha
  have hw := qW_at (G := G) (h := h) ha2 ha1
  rw [he] at hw
  have hw : (qW G h)[a - 2]? = some (qAd G a, .inl (qAC G 1, n, .inr (.inl (fun j => Int64.ofInt (f j))))) := hw
  exact va_alen (D := qD G) hx hb hK.1 hH.2.2.2.2 (a - 2) 1 hw rfl (v := Int32.ofInt n) (by rw [Int32.ofInt_eq_ofNat]) hd k2
/-- fewer locals are known -/
def qLe (ls ls' : List qA) : Prop := ls'.length = ls.length ∧ ∀ (i : Nat) (v : Int ⊕ Int ⊕ Option Nat), ls'[i]? = some (some v) → ls[i]? = some (some v)
theorem qle_n : qLe [] [] := ⟨rfl, fun _ _ h => h⟩
theorem qle_k {a b : qA} {l l' : List qA} (e : a = b) (h : qLe l l') : qLe (a :: l) (b :: l') := by
  subst e
  refine ⟨by simp [h.1], fun i v hv => ?_⟩
  cases i with
  | zero => exact hv
  | succ i => exact h.2 i v hv
theorem qle_d {a : qA} {l l' : List qA} (h : qLe l l') : qLe (a :: l) (none :: l') := by
  refine ⟨by simp [h.1], fun i v hv => ?_⟩
  cases i with
  | zero => cases hv
  | succ i => exact h.2 i v hv
theorem z_dr {M : qM} {pc : Nat} {ls ls' st st' : List qA} {h h' hr : qH} {r : Option qA} (hl : qLe ls ls') (hs : st = st') (hh : h = h') (k : qEx M pc ls' st' h' r hr) : qEx M pc ls st h r hr := by
  subst hs; subst hh
  unfold qEx at *
  refine ⟨k.1, k.2.1, fun G p l e s m args below meth c H locs cells slots mc ms lsA C hH hS hRl hRs hc hs hL => ?_⟩
  refine k.2.2 G p l e s m args below meth c H locs cells slots mc ms lsA C hH hS (fun v hv => ?_) hRs hc hs ⟨hL.1, hL.2.1, hl.1.trans hL.2.2.1, fun i v hv => hL.2.2.2 i v (hl.2 i v hv)⟩
  obtain ⟨i, hi⟩ := List.getElem?_of_mem hv
  cases v with
  | none => trivial
  | some w => exact qRs_at hRl (hl.2 i w hi)
