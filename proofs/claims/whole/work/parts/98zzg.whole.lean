/-! THE CLAIM OUT OF ONE WALK OF THE LAW'S BODY. Your part is whole_start (and what it stands on); all else here is the same for every law, but numbers. -/
def R_law : String := "BeaconWallLaw"
def lw_P (b : Addr) (xs : List Int32) (args : Array Value) (s : State) : Prop := args = #[.ref b] ∧ s.IntsAt b xs ∧ xs.length ≤ 384 ∧ (Jvm.Cond.and given_1 narrow_1).before args s = true
def lw_Q (_ : Array Value) (s : State) (o : Outcome) (t : State) : Prop := o = .returned (some (.int 1)) ∧ Framed s o t [] 600000 7302250
def lw_Z (below : List Frame) (a : Array Value) (s : State) : State → Prop := fun t => ∃ o, t.status = .running ∧ Ended t below o ∧ lw_Q a s o t
/-- the law's own end, with 1 on the stack, nothing written that was there before, its room as the claim has it -/
theorem lw_ret {p : Program} {l : Launch} {e : Env} {s : State} {m : MethodId} {below : List Frame} {meth : Method} {c : Code} {b : Nat} (hx : p.tables.exec = Jvm.exec) (hb : c.code = code) (hr : meth.sig.returnType = ret) (hlocks : meth.locks = false) {pc : Nat} {H : Heap} {ls : Array Slot} (hdg : decode code pc = .ok (.ireturn, 1)) : W p l e room_1 s m #[Value.ref b] below meth c H [] 600000 7302250 (lw_Z below #[Value.ref b] s) (F0 m pc ls [.int 1]) := by
  intro T hT X
  obtain ⟨fs, hret, hrun, hended, hW, hframe⟩ := X.leave (v := some (.int 1)) (hlocks := hlocks) (fun h => by rw [hr] at h; cases h)
  have hmeth' : T.vm.method? m = some meth := X.method'
  refine ⟨T.setFrames fs, ?_, .returned (some (.int 1)), hrun, hended, rfl, ⟨_, rfl⟩, hW, hframe⟩
  jvm_step X.here [X.here.top, hx, hb, hdg, hmeth', hr, ret, narrow_b1]
  (try refine ⟨rfl, ?_⟩); (try refine ⟨rfl, ?_⟩)
  first | (intro acts; rw [hret _ acts rfl rfl rfl]) | rw [hret _ _ rfl rfl rfl]
  exact Steps.refl _
/-- what holds at the law's entry: the machine, the code, the tables' words (any of lw_tbl by 'hts w (by decide +kernel)'), the script of L ints xs at the cell b, what the Statement gives of the start (any of its parts by flat_of_before) -/
def lw_At (p : Program) (s : State) (m : MethodId) (meth : Method) (c : Code) (b L : Nat) (xs : Nat → Int32) : Prop :=
  p.tables.exec = Jvm.exec ∧ c.code = code ∧ meth.sig.returnType = ret ∧ c.maxLocals = 4 ∧ s.vm.findClass R_law = some m.cls ∧ (∀ w ∈ lw_tbl, w.before #[Value.ref b] s = true) ∧ va_X b L xs s s.heap ∧ b < s.heap.size ∧ meth.locks = false ∧ (Jvm.Cond.and given_1 narrow_1).before #[Value.ref b] s = true
theorem fr_forget {s t : State} {o : Outcome} {L : List Loc} {k n k2 n2 : Nat} (h : FrameEnd s o t L k n) (hL : ∀ q ∈ L, s.heap.size ≤ q.base) (h1 : k ≤ k2) (h2 : n ≤ n2) : Framed s o t [] k2 n2 := by
  obtain ⟨a, b, c1, c2, c3, c4, c5, c6⟩ := h
  refine ⟨a, b, c1, c2, Nat.le_trans c3 (Nat.add_le_add_left h1 _), c4, Nat.le_trans c5 h2, fun x c hc => ?_⟩
  obtain ⟨c', e1, e2, e3, e4⟩ := c6 x c hc
  refine ⟨c', e1, e2, e3, fun i _ => e4 i (fun hm => ?_)⟩
  have q1 : s.heap.size ≤ x := hL _ hm
  have q2 : x < s.heap.size := (Array.getElem?_eq_some_iff.mp hc).1
  exact absurd q2 (Nat.not_lt.mpr q1)
theorem nw_ins {own : String} {idx ci : Nat} {fs : List qA} (h : qNw own idx ci fs) {q : vw_C} (hq : vwCl[ci]? = some q) : ∃ n, Cond.instantiable q.1 n ∈ lw_tbl := by
  obtain ⟨C, T, N, ty, hcl, w1, w2, w3, _⟩ := h
  cases (hcl.symm.trans hq)
  exact ⟨N, (List.mem_filter.mp w2).1⟩
theorem cl_ins : ∀ (ci : Nat) (q : vw_C), vwCl[ci]? = some q → ∃ n, Cond.instantiable q.1 n ∈ lw_tbl
  | 0, _, h => nw_ins nw_X8_9 h
  | 1, _, h => nw_ins nw_X11_51 h
  | 2, _, h => nw_ins nw_X0_9 h
  | 3, _, h => nw_ins nw_X11_23 h
  | 4, _, h => nw_ins nw_X11_30 h
  | 5, _, h => nw_ins nw_X11_44 h
  | 6, _, h => nw_ins nw_X8_21 h
  | 7, _, h => nw_ins nw_X9_9 h
  | 8, _, h => nw_ins nw_X11_9 h
  | 9, _, h => nw_ins nw_X11_37 h
  | 10, _, h => nw_ins nw_X3_9 h
  | 11, _, h => nw_ins nw_L_7 h
  | 12, _, h => nw_ins nw_L_10 h
  | (k + 13), q, h => by
    have : (vwCl[k + 13]? : Option vw_C) = none := List.getElem?_eq_none (by show vwCl.length ≤ _; have : vwCl.length = 13 := rfl; omega)
    rw [this] at h
    cases h
theorem tb_683 : Cond.stringRef RX4 103 qTx ∈ lw_tbl := List.mem_append_right _ (List.mem_of_getElem? (i := 683) (by decide +kernel))
theorem tb_693 : Cond.laysStatic "java/lang/String" "COMPACT_STRINGS" "Z" ∈ lw_tbl := List.mem_append_right _ (List.mem_of_getElem? (i := 693) (by decide +kernel))
theorem tb_701 : Cond.laysStatic "jdk/internal/util/Preconditions" "SIOOBE_FORMATTER" "Ljava/util/function/BiFunction;" ∈ lw_tbl := List.mem_append_right _ (List.mem_of_getElem? (i := 701) (by decide +kernel))
theorem tb_17 : Cond.initialized "java/lang/String" ∈ lw_tbl := List.mem_append_right _ (List.mem_of_getElem? (i := 17) (by decide +kernel))
theorem tb_19 : Cond.initialized "jdk/internal/util/Preconditions" ∈ lw_tbl := List.mem_append_right _ (List.mem_of_getElem? (i := 19) (by decide +kernel))
theorem tb_43 : Cond.arrayOver (.object RX2) ∈ lw_tbl := List.mem_append_right _ (List.mem_of_getElem? (i := 43) (by decide +kernel))
theorem tb_208 : Cond.arrayOver (.object RX10) ∈ lw_tbl := List.mem_append_right _ (List.mem_of_getElem? (i := 208) (by decide +kernel))
theorem nr_el : ∀ j : Fin 91, Cond.eq (.elem (.field (.string RX4 103) "java/lang/String" "value" "[B") (.int (Int32.ofNat j))) (.int (qTb.getD j 0)) ∈ flatC (Jvm.Cond.and given_1 narrow_1) := by decide +kernel
theorem ar_prim {s : State} {args : Array Value} {ty : FieldType} (hp : ∀ C, ty ≠ .object C) (h : (Cond.arrayClass ty).before args s = true) : ∃ cA, ArrOfT s cA ty ∧ va_RA s cA ty := by
  obtain ⟨cA, kA, comp, h1, h2, h3⟩ := Cond.arrayClass_spec h
  refine ⟨cA, fun n z => ⟨fun k h => (by cases h), kA, h2, comp, h3⟩, ?_⟩
  cases ty with
  | object C => exact absurd rfl (hp C)
  | _ => exact h1
theorem ar_ref {s : State} {args : Array Value} {C : String} (h : (Cond.arrayOver (.object C)).before args s = true) : ∃ cA, ArrOfT s cA (.object C) ∧ va_RA s cA (.object C) := by
  obtain ⟨comp, cA, kA, h1, h2, h3, h4, h5⟩ := Cond.arrayOver_spec h
  exact ⟨cA, fun n z => ⟨fun k h => (by cases h), kA, h3, comp, h4⟩, kA, comp, h3, h4, h1, h5⟩
/-- the own machine's first heap -/
def hw0 (L : Nat) (xs : Nat → Int32) : qH := (2, 0, fun a => if a = 0 then qOb 99 [] else if a = 1 then qAr 0 L (fun j => (xs j).toInt) else qOb 98 [])
theorem hw0_F (L : Nat) (xs : Nat → Int32) : qF (hw0 L xs) := by
  refine ⟨Nat.le_refl _, rfl, fun a ha => ?_, fun a => ?_, L, _, rfl⟩
  · have ha : 2 ≤ a := ha
    show (if a = 0 then qOb 99 [] else if a = 1 then _ else qOb 98 []) = qOb 98 []
    rw [if_neg (by omega), if_neg (by omega)]
  · show qRc (if a = 0 then qOb 99 [] else if a = 1 then qAr 0 L (fun j => (xs j).toInt) else qOb 98 [])
    by_cases h0 : a = 0
    · rw [if_pos h0]; intro v hv; cases hv
    · by_cases h1 : a = 1
      · rw [if_neg h0, if_pos h1]; intro j; show R32 _; exact r32_in
      · rw [if_neg h0, if_neg h1]; intro v hv; cases hv
set_option maxRecDepth 20000 in
theorem whole_start {p : Program} {e : Env} {s : State} {m : MethodId} {below : List Frame} {meth : Method} {c : Code} (l : Launch) {b L : Nat} {xs : Nat → Int32} (hnm : meth.name = "law") (hL : L ≤ 384) (C0 : lw_At p s m meth c b L xs) : W p l e room_1 s m #[Value.ref b] below meth c s.heap [] 0 0 (lw_Z below #[Value.ref b] s) (entryFrame m ([Value.ref b] : List Value).toArray 4) := by
  obtain ⟨hx, hb, hr, hml, hown, hts, hX, hbl, hlocks, hgv⟩ := id C0
  have hs := flat_of_before _ hgv
  have hA : ∀ a : Nat, a < s.heap.size → ¬ (fun q : Nat => s.heap.size ≤ q) a := fun a h1 h2 => absurd h1 (Nat.not_lt.mpr h2)
  obtain ⟨adK, adV, hE, hadK⟩ := vk_Sof (args := #[Value.ref b]) (s := s) (N := 1) (tm := fun _ => .string RX4 103) (len := [91]) (byt := [qTb]) (A := fun q => s.heap.size ≤ q) (fun i hi => by (obtain rfl : i = 0 := (by omega)); decide) (fun i _ => hs _ (by decide +kernel)) (fun i _ => hs _ (by decide +kernel)) (fun i _ => hs _ (by decide +kernel)) (fun i hi => by (obtain rfl : i = 0 := (by omega)); exact hs (Cond.eq (.length (.field (.string RX4 103) "java/lang/String" "value" "[B")) (.int 91)) (by decide +kernel)) (fun i hi j hj => by (obtain rfl : i = 0 := (by omega)); exact hs _ (nr_el ⟨j, hj⟩)) (fun i j hi hj hne => absurd (show i = j by omega) hne) hA
  have hcl : ∀ ci : Nat, ∃ q : ClassId × (Nat → Nat), ∀ r : vw_C, vwCl[ci]? = some r → u_Kn s r.1 r.2.1 r.2.2 q.1 q.2 := fun ci => by
    cases hq : vwCl[ci]? with
    | none => exact ⟨(m.cls, fun _ => 0), fun r h => by cases h⟩
    | some r =>
      obtain ⟨C, T, N⟩ := r
      obtain ⟨n, hn⟩ := cl_ins ci _ hq
      obtain ⟨cC, iS, hKn⟩ := u_known (C := C) (T := T) (N := N) (n := n) hts (qCl_ok hq).1 (hts _ hn)
      exact ⟨(cC, iS), fun r h => by cases h; exact hKn⟩
  obtain ⟨D, hD⟩ := Classical.axiomOfChoice hcl
  obtain ⟨a0, A0⟩ := ar_prim (fun C h => by cases h) (hts _ (List.mem_filter.mp ac_int).1)
  obtain ⟨a1, A1⟩ := ar_prim (fun C h => by cases h) (hts _ (List.mem_filter.mp ac_long).1)
  obtain ⟨a2, A2⟩ := ar_prim (fun C h => by cases h) (hts _ (List.mem_filter.mp ac_boolean).1)
  obtain ⟨a3, A3⟩ := ar_ref (hts _ tb_43)
  obtain ⟨a4, A4⟩ := ar_ref (hts _ tb_208)
  let G : qG := (fun ci => (D ci).1, fun ci => (D ci).2, fun t => if t = 0 then a0 else if t = 1 then a1 else if t = 2 then a2 else if t = 12 then a3 else a4, s.heap, b, adK 0)
  obtain ⟨scr, x1, x2, x3, x4, x5⟩ := hX
  have hK : qK G s := by
    refine ⟨⟨fun ci q hq => hD ci q hq, fun k q hq => ?_⟩, fun w hw hn => ?_, hts _ tb_43, hts _ tb_208, fun cell hc => ?_, vk_R.of (hts _ tb_683) (hadK 0 (by decide)), ⟨adV, fun i hi => ?_, fun i j hi hj _ => by omega⟩, va_Zof (hts _ tb_693) (hts _ tb_17) (va_eqi (hs _ (by decide +kernel))) hA, va_Zqof (hts _ tb_701) (hts _ tb_19) (hs _ (by decide +kernel)) hA⟩
    · match k, hq with
      | 0, hq => cases hq; exact A0
      | 1, hq => cases hq; exact A1
      | 2, hq => cases hq; exact A2
      | 3, hq => cases hq; exact A3
      | 4, hq => cases hq; exact A4
      | k + 5, hq => simp [qTys] at hq
    · have h5 := hts w hw
      cases w with
      | fieldLinkNest _ _ _ _ _ _ => exact h5
      | methodLinkNest _ _ _ _ => exact h5
      | _ => cases hn
    · cases (x1.symm.trans hc)
      exact x2
    · obtain rfl : i = 0 := by omega
      exact hE.1 0 (by decide)
  have hHR : qHR G (hw0 L xs) s.heap := ⟨hw0_F L xs, ⟨L, fun j => (xs j).toInt, scr, rfl, x1, x3, x4, fun j hj => by rw [Int32.ofInt_toInt]; exact x5 j hj⟩, rfl, fun _ _ => rfl, fun k q h => by simp [qW, hw0] at h⟩
  obtain ⟨hr9, ⟨e1, e2⟩, k⟩ := lw_all (n := L) (S := fun j => (xs j).toInt) (h := hw0 L xs) rfl rfl (by omega) (fun j => r32_in)
  have hl := lv_entry ([.ref b]) (n := 4) (Nat.le_of_ble_eq_true rfl)
  rw [lg_entry_eq]
  generalize (lg_sl ([.ref b]) ++ List.replicate (4 - (lg_sl ([.ref b])).length) Slot.unset).toArray = ls at hl ⊢
  have hb0 : (hw0 L xs).1 = 2 := rfl
  have hb1 : (hw0 L xs).2.1 = 0 := rfl
  have K := k.2.2 G p l e s m #[Value.ref b] below meth c s.heap [] 0 0 600000 7302250 ls ⟨hx, hb, hml, hr, hown, hlocks, hnm, fun w hw => hts w (List.mem_filter.mp hw).1, hK, Nat.le_refl _⟩ hHR va_S.rf (fun v hv => by
    rcases List.mem_cons.mp hv with h | hv
    · rw [h]; trivial
    · rcases List.mem_cons.mp hv with h | hv
      · rw [h]; trivial
      · rcases List.mem_cons.mp hv with h | hv
        · rw [h]; trivial
        · rcases List.mem_cons.mp hv with h | hv
          · rw [h]; trivial
          · cases hv) (fun v hv => by cases hv) (by rw [e1, hb0]; decide) (by rw [e2, hb1]; decide) ⟨hl.1, hl.2.1, rfl, fun i v hv => ?_⟩
  · intro T hT X
    obtain ⟨t, st, o, q1, q2, q3, Lc, q4, q5⟩ := K T hT X
    refine ⟨t, st, o, q1, q2, ?_, fr_forget q4 q5 (Nat.le_refl _) (Nat.le_refl _)⟩
    rw [q3.1]
    rfl
  · match i, hv with
    | 0, hv => cases hv; exact lv_at hl 0 rfl
    | 1, hv => cases hv
    | 2, hv => cases hv
    | 3, hv => cases hv
    | i + 4, hv => simp at hv
