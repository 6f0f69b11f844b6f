/-! ===== THE OWN MACHINE: values, cells and heaps in whole numbers ===== -/
abbrev R32 (z : Int) : Prop := -2147483648 ≤ z ∧ z ≤ 2147483647
abbrev R64 (z : Int) : Prop := -9223372036854775808 ≤ z ∧ z ≤ 9223372036854775807
/-- a value: an int, a long, a reference or null; none: nothing yet, or a long's second half -/
abbrev qA : Type := Option (Int ⊕ Int ⊕ Option Nat)
abbrev qI (z : Int) : qA := some (.inl z)
abbrev qL (z : Int) : qA := some (.inr (.inl z))
abbrev qR (a : Nat) : qA := some (.inr (.inr (some a)))
abbrev qN : qA := some (.inr (.inr none))
abbrev qU : qA := none
/-- a cell: an object (class, fields), an array of numbers (0 int, 1 long, 2 boolean; length, contents), an array of references -/
abbrev qC : Type := (Nat × List qA) ⊕ (Nat × Nat × (Nat → Int)) ⊕ (Nat × Nat × (Nat → Option Nat))
abbrev qOb (c : Nat) (fs : List qA) : qC := .inl (c, fs)
abbrev qAr (t n : Nat) (f : Nat → Int) : qC := .inr (.inl (t, n, f))
abbrev qRr (c n : Nat) (f : Nat → Option Nat) : qC := .inr (.inr (c, n, f))
/-- a heap: how many cells (0 the text, 1 the script, then what was made), how many slots, which -/
abbrev qH : Type := Nat × Nat × (Nat → qC)
def qset (h : qH) (a : Nat) (c : qC) : qH := (h.1, h.2.1, fun q => if q = a then c else h.2.2 q)
def qnew (h : qH) (c : qC) (k : Nat) : qH := (h.1 + 1, h.2.1 + k, fun q => if q = h.1 then c else h.2.2 q)
theorem qset_eq (h : qH) (a : Nat) (c : qC) : (qset h a c).2.2 a = c := by simp [qset]
theorem qset_ne {h : qH} {a b : Nat} {c : qC} (hb : b ≠ a) : (qset h a c).2.2 b = h.2.2 b := by simp [qset, hb]
theorem qset_n (h : qH) (a : Nat) (c : qC) : (qset h a c).1 = h.1 := rfl
theorem qset_s (h : qH) (a : Nat) (c : qC) : (qset h a c).2.1 = h.2.1 := rfl
theorem qnew_eq (h : qH) (c : qC) (k : Nat) : (qnew h c k).2.2 h.1 = c := by simp [qnew]
theorem qnew_ne {h : qH} {b : Nat} {c : qC} {k : Nat} (hb : b ≠ h.1) : (qnew h c k).2.2 b = h.2.2 b := by simp [qnew, hb]
/-- what the law's start fixes: classes, slots, classes of arrays, the heap at the start, the script's and the text's cell -/
abbrev qG : Type := (Nat → ClassId) × (Nat → Nat → Nat) × (Nat → ClassId) × Heap × Nat × Nat
abbrev qD (G : qG) : va_G := (G.1, G.2.1)
abbrev qAC (G : qG) : Nat → ClassId := G.2.2.1
abbrev qH0 (G : qG) : Heap := G.2.2.2.1
abbrev qScr (G : qG) : Nat := G.2.2.2.2.1
abbrev qStr (G : qG) : Nat := G.2.2.2.2.2
abbrev qB (G : qG) : Nat := (qH0 G).size
def qAd (G : qG) (a : Nat) : Nat := if a = 0 then qStr G else if a = 1 then qScr G else qB G + (a - 2)
theorem qAd_of {G : qG} {a : Nat} (h : 2 ≤ a) : qAd G a = qB G + (a - 2) := by
  unfold qAd
  rw [if_neg (by omega), if_neg (by omega)]
def qV (G : qG) (v : qA) : Value := match v with
  | some (.inl z) => .int (Int32.ofInt z)
  | some (.inr (.inl z)) => .long (Int64.ofInt z)
  | some (.inr (.inr (some a))) => .ref (qAd G a)
  | some (.inr (.inr none)) => .null
  | none => .null
theorem qV_i (G : qG) (z : Int) : qV G (qI z) = .int (Int32.ofInt z) := rfl
theorem qV_l (G : qG) (z : Int) : qV G (qL z) = .long (Int64.ofInt z) := rfl
theorem qV_r (G : qG) (a : Nat) : qV G (qR a) = .ref (qAd G a) := rfl
theorem qV_n (G : qG) : qV G qN = .null := rfl
def qE (G : qG) (c : qC) : va_E := match c with
  | .inl (c, fs) => .inr (c, fs.map (qV G))
  | .inr (.inl (t, n, f)) => .inl (qAC G t, n, if t = 1 then .inr (.inl (fun j => Int64.ofInt (f j))) else .inl (fun j => Int32.ofInt (f j)))
  | .inr (.inr (c, n, f)) => .inl (qAC G (10 + c), n, .inr (.inr (.inr (.inr (fun j => (f j).map (qAd G))))))
def qW (G : qG) (h : qH) : va_W := (List.range (h.1 - 2)).map (fun i => (qB G + i, qE G (h.2.2 (i + 2))))
theorem qW_len (G : qG) (h : qH) : (qW G h).length = h.1 - 2 := by simp [qW]
theorem qW_get {G : qG} {h : qH} {i : Nat} (hi : i < h.1 - 2) : (qW G h)[i]? = some (qB G + i, qE G (h.2.2 (i + 2))) := by
  simp [qW, hi]
theorem qW_at {G : qG} {h : qH} {a : Nat} (h2 : 2 ≤ a) (ha : a < h.1) : (qW G h)[a - 2]? = some (qAd G a, qE G (h.2.2 a)) := by
  rw [qW_get (by omega), qAd_of h2, show a - 2 + 2 = a by omega]
theorem qW_inv {G : qG} {h : qH} {i : Nat} {q : Nat × va_E} (hq : (qW G h)[i]? = some q) : i < h.1 - 2 ∧ q = (qB G + i, qE G (h.2.2 (i + 2))) := by
  have hi : i < h.1 - 2 := by
    have := (List.getElem?_eq_some_iff.mp hq).1
    rw [qW_len] at this
    exact this
  rw [qW_get hi] at hq
  exact ⟨hi, (Option.some.inj hq).symm⟩
theorem qW_D (G : qG) (h : qH) : va_D (fun q => qB G ≤ q) (qW G h) := by
  refine ⟨fun i j p q hp hq e => ?_, fun k q hq => ?_⟩
  · obtain ⟨-, rfl⟩ := qW_inv hp
    obtain ⟨-, rfl⟩ := qW_inv hq
    simp only at e
    omega
  · obtain ⟨-, rfl⟩ := qW_inv hq
    simp only
    omega
theorem qW_set {G : qG} {h : qH} {a : Nat} {c : qC} (h2 : 2 ≤ a) (ha : a < h.1) : (qW G h).set (a - 2) (qAd G a, qE G c) = qW G (qset h a c) := by
  apply List.ext_getElem?
  intro i
  rw [List.getElem?_set]
  by_cases hi : i < h.1 - 2
  · rw [qW_get (h := qset h a c) (by rw [qset_n]; exact hi)]
    by_cases e : a - 2 = i
    · subst e
      rw [if_pos rfl, if_pos (by rw [qW_len]; omega), show a - 2 + 2 = a by omega, qset_eq, qAd_of h2]
    · rw [if_neg e, qW_get hi, qset_ne (by omega)]
  · rw [List.getElem?_eq_none (l := qW G (qset h a c)) (by rw [qW_len, qset_n]; omega)]
    rw [if_neg (by omega)]
    exact List.getElem?_eq_none (by rw [qW_len]; omega)
theorem qW_push {G : qG} {h : qH} {c : qC} {k : Nat} (h2 : 2 ≤ h.1) : qW G h ++ [(qAd G h.1, qE G c)] = qW G (qnew h c k) := by
  apply List.ext_getElem?
  intro i
  have hn : (qnew h c k).1 - 2 = h.1 - 2 + 1 := by simp only [qnew]; omega
  by_cases hi : i < h.1 - 2
  · rw [List.getElem?_append_left (by rw [qW_len]; exact hi), qW_get hi, qW_get (by omega), qnew_ne (by omega)]
  · rw [List.getElem?_append_right (by rw [qW_len]; omega), qW_len]
    by_cases e : i = h.1 - 2
    · subst e
      rw [qW_get (by omega), Nat.sub_self, show h.1 - 2 + 2 = h.1 by omega, qnew_eq, qAd_of h2]
      rfl
    · rw [List.getElem?_eq_none (l := qW G (qnew h c k)) (by rw [qW_len]; omega)]
      exact List.getElem?_eq_none (by simp only [List.length_cons, List.length_nil]; omega)
/-! what is in range -/
def qRv (v : qA) : Prop := match v with
  | some (.inl z) => R32 z
  | some (.inr (.inl z)) => R64 z
  | _ => True
def qRs (l : List qA) : Prop := ∀ v ∈ l, qRv v
def qRc (c : qC) : Prop := match c with
  | .inl (_, fs) => qRs fs
  | .inr (.inl (t, _, f)) => ∀ j, if t = 1 then R64 (f j) else R32 (f j)
  | .inr (.inr _) => True
theorem qRs_cons {v : qA} {l : List qA} (h : qRv v) (h2 : qRs l) : qRs (v :: l) := fun w hw => (List.mem_cons.mp hw).elim (fun e => e ▸ h) (h2 w)
theorem qRs_tail {v : qA} {l : List qA} (h : qRs (v :: l)) : qRs l := fun w hw => h w (List.mem_cons_of_mem _ hw)
theorem qRs_head {v : qA} {l : List qA} (h : qRs (v :: l)) : qRv v := h v List.mem_cons_self
theorem qRs_at {l : List qA} {i : Nat} {v : qA} (h : qRs l) (hv : l[i]? = some v) : qRv v := h v (List.mem_of_getElem? hv)
theorem qRs_set {l : List qA} {i : Nat} {v : qA} (h : qRs l) (hv : qRv v) : qRs (l.set i v) := fun w hw => (List.mem_or_eq_of_mem_set hw).elim (h w) (fun e => e ▸ hv)
/-- the heaps that a run can come to -/
def qF (h : qH) : Prop := 2 ≤ h.1 ∧ h.2.2 0 = qOb 99 [] ∧ (∀ a, h.1 ≤ a → h.2.2 a = qOb 98 []) ∧ (∀ a, qRc (h.2.2 a)) ∧ ∃ n f, h.2.2 1 = qAr 0 n f
theorem qF_set {h : qH} {a : Nat} {c : qC} (hF : qF h) (h2 : 2 ≤ a) (ha : a < h.1) (hc : qRc c) : qF (qset h a c) := by
  refine ⟨hF.1, ?_, fun b hb => ?_, fun b => ?_, by rw [qset_ne (by omega)]; exact hF.2.2.2.2⟩
  · rw [qset_ne (by omega)]
    exact hF.2.1
  · rw [qset_n] at hb
    rw [qset_ne (by omega)]
    exact hF.2.2.1 b hb
  · by_cases e : b = a
    · subst e
      rw [qset_eq]
      exact hc
    · rw [qset_ne e]
      exact hF.2.2.2.1 b
theorem qF_new {h : qH} {c : qC} {k : Nat} (hF : qF h) (hc : qRc c) : qF (qnew h c k) := by
  have h2 := hF.1
  refine ⟨Nat.le_succ_of_le h2, ?_, fun b hb => ?_, fun b => ?_, by rw [qnew_ne (by omega)]; exact hF.2.2.2.2⟩
  · rw [qnew_ne (by omega)]
    exact hF.2.1
  · have hb : h.1 + 1 ≤ b := hb
    rw [qnew_ne (by omega)]
    exact hF.2.2.1 b (by omega)
  · by_cases e : b = h.1
    · subst e
      rw [qnew_eq]
      exact hc
    · rw [qnew_ne e]
      exact hF.2.2.2.1 b
theorem qF_lt {h : qH} {a : Nat} {c : qC} (hF : qF h) (e : h.2.2 a = c) (hc : c ≠ qOb 98 []) : a < h.1 := by
  rcases Nat.lt_or_ge a h.1 with q | q
  · exact q
  · exact absurd (e.symm.trans (hF.2.2.1 a q)) hc
theorem qF_ne0 {h : qH} {a : Nat} {c : qC} (hF : qF h) (e : h.2.2 a = c) (hc : c ≠ qOb 99 []) : a ≠ 0 := by
  intro q
  subst q
  exact hc (e.symm.trans hF.2.1)
/-- the machine's heap is as the own one says -/
def qSc (G : qG) (h : qH) : Prop := ∃ (n : Nat) (f : Nat → Int) (cell : Cell), h.2.2 1 = qAr 0 n f ∧ (qH0 G)[qScr G]? = some cell ∧ cell.vm ≠ .unknown ∧ cell.slots.size = n ∧ ∀ j, j < n → cell.slots[j]? = some (.int (Int32.ofInt (f j)))
def qHR (G : qG) (h : qH) (H : Heap) : Prop := qF h ∧ qSc G h ∧ H.size = qB G + (h.1 - 2) ∧ (∀ q, q < qB G → H[q]? = (qH0 G)[q]?) ∧ va_P (qD G) vwCl (qW G h) H
def qTys (G : qG) : List (ClassId × FieldType) := [(qAC G 0, .int), (qAC G 1, .long), (qAC G 2, .boolean), (qAC G 12, .object RX2), (qAC G 20, .object RX10)]
def qNest (w : Cond) : Bool := match w with
  | .fieldLinkNest _ _ _ _ _ _ => true
  | .methodLinkNest _ _ _ _ => true
  | _ => false
def qTbl : List Cond := lw_tbl.filter goodWord
theorem qTbl_good : ∀ w ∈ qTbl, goodWord w = true := fun w h => (List.mem_filter.mp h).2
/-- the text constant: what ldc loads there, its bytes, and two statics that its charAt reads -/
def qTx : String := "any    not    end    same   at     tell   deaf   wake   late   soon   gate   keeper below  "
def qTb : List Int32 := [97, 110, 121, 32, 32, 32, 32, 110, 111, 116, 32, 32, 32, 32, 101, 110, 100, 32, 32, 32, 32, 115, 97, 109, 101, 32, 32, 32, 97, 116, 32, 32, 32, 32, 32, 116, 101, 108, 108, 32, 32, 32, 100, 101, 97, 102, 32, 32, 32, 119, 97, 107, 101, 32, 32, 32, 108, 97, 116, 101, 32, 32, 32, 115, 111, 111, 110, 32, 32, 32, 103, 97, 116, 101, 32, 32, 32, 107, 101, 101, 112, 101, 114, 32, 98, 101, 108, 111, 119, 32, 32]
def qTxt (G : qG) (U : State) : Prop := vk_R RX4 103 qTx (qStr G) U ∧ (∃ adV : Nat → Nat, vk_S 1 [91] [qTb] (fun _ => qStr G) adV (fun q => qB G ≤ q) U (qH0 G)) ∧ va_Z "java/lang/String" "COMPACT_STRINGS" "Z" (.int 1) (fun q => qB G ≤ q) U (qH0 G) ∧ va_Zq "jdk/internal/util/Preconditions" "SIOOBE_FORMATTER" "Ljava/util/function/BiFunction;" (fun q => qB G ≤ q) U (qH0 G)
theorem qTxt_moved {G : qG} {s U : State} (hW : s.WarmedH U.vm) (h : qTxt G s) : qTxt G U := by
  obtain ⟨h1, ⟨adV, h2⟩, h3, h4⟩ := h
  exact ⟨vk_R.warm hW h1, ⟨adV, vk_S.moved hW.alike h2⟩, va_Z.moved hW.alike h3, va_Zq.moved hW.alike h4⟩
theorem qTxt_same {G : qG} {U V : State} (hvm : U.vm = V.vm) (h : qTxt G U) : qTxt G V := by
  obtain ⟨h1, ⟨adV, h2⟩, h3, h4⟩ := h
  have hal : U.vm.Alike V.vm := by rw [hvm]; exact Vm.Alike.refl _
  exact ⟨vk_R.same hvm.symm h1, ⟨adV, vk_S.moved hal h2⟩, va_Z.moved hal h3, va_Zq.moved hal h4⟩
/-- what the tables say, at a state -/
def qK (G : qG) (U : State) : Prop := va_K (qD G) vwCl (qTys G) U ∧ (∀ w ∈ lw_tbl, qNest w = true → va_Nw w U) ∧ va_AO RX2 U ∧ va_AO RX10 U ∧ (∀ cell, (qH0 G)[qScr G]? = some cell → U.isArrayOf cell .int) ∧ qTxt G U
theorem qK_moved {G : qG} {s U : State} (hW : s.WarmedH U.vm) (h : qK G s) : qK G U := by
  obtain ⟨h1, h2, h3, h4, h6, h7⟩ := h
  refine ⟨va_K.moved hW.alike h1, fun w hw hn => ?_, va_AO.moved hW.alike h3, va_AO.moved hW.alike h4, fun cell hc => State.isArrayOf_alike hW.alike (h6 cell hc), qTxt_moved hW h7⟩
  have h5 := h2 w hw hn
  cases w with
  | fieldLinkNest a b c d e f => exact va_Nw.warmF hW h5
  | methodLinkNest a b c d => exact va_Nw.warmM hW h5
  | _ => cases hn
theorem qK_same {G : qG} {U V : State} (hvm : U.vm = V.vm) (h : qK G U) : qK G V := by
  obtain ⟨h1, h2, h3, h4, h6, h7⟩ := h
  have hal : U.vm.Alike V.vm := by rw [hvm]; exact Vm.Alike.refl _
  refine ⟨va_K.moved hal h1, fun w hw hn => ?_, va_AO.moved hal h3, va_AO.moved hal h4, fun cell hc => State.isArrayOf_alike hal (h6 cell hc), qTxt_same hvm h7⟩
  have h5 := h2 w hw hn
  cases w with
  | fieldLinkNest a b c d e f => exact va_Nw.same rfl hvm h5
  | methodLinkNest a b c d => exact va_Nw.same rfl hvm h5
  | _ => cases hn
/-- a method: name, code, locals, answer's type, frames and words of locals that it may take -/
abbrev qM : Type := MethodName × ByteArray × Nat × Option FieldType × Nat × Nat
abbrev qMy (M : qM) : MethodName := M.1
abbrev qMc (M : qM) : ByteArray := M.2.1
abbrev qMl (M : qM) : Nat := M.2.2.1
abbrev qMr (M : qM) : Option FieldType := M.2.2.2.1
abbrev qMf (M : qM) : Nat := M.2.2.2.2.1
abbrev qMw (M : qM) : Nat := M.2.2.2.2.2
def qX (G : qG) (M : qM) (p : Program) (s : State) (m : MethodId) (args : Array Value) (meth : Method) (c : Code) : Prop :=
  p.tables.exec = Jvm.exec ∧ c.code = qMc M ∧ c.maxLocals = qMl M ∧ meth.sig.returnType = qMr M ∧ s.vm.findClass (qMy M).cls = some m.cls ∧ meth.locks = false ∧ meth.name = (qMy M).name ∧ (∀ w ∈ qTbl, w.before args s = true) ∧ qK G s ∧ qB G ≤ s.heap.size
/-- the locals -/
def qLR (G : qG) (n : Nat) (ls : List qA) (lsA : Array Slot) : Prop := lsA.size = n ∧ lv_wf lsA ∧ ls.length = n ∧ ∀ (i : Nat) (v : Int ⊕ Int ⊕ Option Nat), ls[i]? = some (some v) → lsA[i]? = some (.val (qV G (some v)))
def qFree (G : qG) : Nat → Prop := fun q => qB G ≤ q
def qQ (G : qG) (r : Option qA) (hr : qH) : Array Value → State → Outcome → State → Prop := fun _ st o t => o = .returned (r.map (qV G)) ∧ (∀ v, r = some v → qRv v) ∧ qHR G hr t.heap ∧ va_F (qFree G) st t
/-- from here on the method comes to its end, with the answer r and the heap hr -/
def qEx (M : qM) (pc : Nat) (ls st : List qA) (h : qH) (r : Option qA) (hr : qH) : Prop :=
  h.1 ≤ hr.1 ∧ h.2.1 ≤ hr.2.1 ∧ ∀ (G : qG) (p : Program) (l : Launch) (e : Env) (s : State) (m : MethodId) (args : Array Value) (below : List Frame) (meth : Method) (c : Code) (H : Heap) (locs : List Loc) (cells slots mc ms : Nat) (lsA : Array Slot),
    qX G M p s m args meth c → qHR G h H → va_S (qFree G) s.heap H locs → qRs ls → qRs st → cells + (hr.1 - h.1) ≤ mc → slots + (hr.2.1 - h.2.1) ≤ ms → qLR G (qMl M) ls lsA →
    W p l e { frames := qMf M, cells := mc, slots := ms, locals := qMw M } s m args below meth c H locs cells slots (MQ below (qQ G r hr) args s mc ms (qFree G)) (F0 m pc lsA (st.map (qV G)))
