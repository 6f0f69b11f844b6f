/-! ===== THE OWN MACHINE'S ROWS: Math.min, max, abs; System.arraycopy of ints ===== -/
def qcpy (f g : Nat → Int) (sp dp n : Nat) : Nat → Int := fun k => if dp ≤ k ∧ k < dp + n then f (sp + (k - dp)) else g k
section CopyRow
variable {p : Program} {l : Launch} {e : Env} {R : Room} {s : State} {m : MethodId} {args : Array Value} {below : List Frame} {meth : Method} {c : Code} {H : Heap} {locs : List Loc} {cells slots : Nat} {Q : State → Prop}
variable {pc : Nat} {ls : Array Slot} {rest : List Value} {D : va_G} {cl : List vw_C} {A : Nat → Prop} {a : Nat} {tys : List (ClassId × FieldType)} {ws : va_W} {H0 : Heap}
theorem qs_copyi {cc : ByteArray} (hexec : p.tables.exec = Jvm.exec) (hb : c.code = cc) (hml : c.maxLocals = ls.size) {own : String} {index : Nat} (hown : s.vm.findClass own = some m.cls) (hlink : (Cond.methodLink own index arraycopyName).before args s = true) (hnat : (Cond.native arraycopyName).before args s = true) (hstat : (Cond.static arraycopyName).before args s = true) (hini : (Cond.initialized "java/lang/System").before args s = true)
    (hK : va_K D cl tys s) (hP : va_P D cl ws H) (hD : va_D A ws) (hS : va_S A H0 H locs) (q0 q1 t0 t1 : Nat) {a0 : Nat} {c0 c1 : ClassId} {n0 n1 : Nat} {f g : Nat → Int32} {ty : FieldType} (ha0 : ws[q0]? = some (a0, .inl (c0, n0, .inl f))) (ha1 : ws[q1]? = some (a, .inl (c1, n1, .inl g))) (ht0 : tys[t0]? = some (c0, ty)) (ht1 : tys[t1]? = some (c1, ty)) (hprim : refKind ty = false)
    {sp dp n : Int32} (h1 : ¬ sp < 0) (h2 : ¬ dp < 0) (h3 : ¬ n < 0) (h4 : sp.toNatClampNeg + n.toNatClampNeg ≤ n0) (h5 : dp.toNatClampNeg + n.toNatClampNeg ≤ n1) (hfit : ∀ i, i < n.toNatClampNeg → fits ty (.int (f (sp.toNatClampNeg + i))) = true)
    (hframes : 1 ≤ R.frames) (hlocals : (rest.map fun v => v.category).sum + (nativeFrameWords "java/lang/System" "arraycopy" 5 + 11) ≤ R.locals) (hdg : decode cc pc = .ok (.invokestatic index, 3))
    (kk : ∀ (H1 : Heap) (locs1 : List Loc), va_P D cl (ws.set q1 (a, .inl (c1, n1, .inl (va_cpy f g sp.toNatClampNeg dp.toNatClampNeg n.toNatClampNeg)))) H1 → va_S A H0 H1 locs1 → H1.size = H.size → W p l e R s m args below meth c H1 locs1 cells slots Q (F0 m (pc + 3) ls rest)) : W p l e R s m args below meth c H locs cells slots Q (F0 m pc ls (.int n :: .int dp :: .ref a :: .int sp :: .ref a0 :: rest)) := by
  have nn : ∀ z : Int32, ¬ z < 0 → z.toInt = (z.toNatClampNeg : Int) := by
    intro z hz
    have hz0 : (0 : Int) ≤ z.toInt := by
      have := Int32.not_lt.mp hz
      simpa using Int32.le_iff_toInt_le.mp this
    show z.toInt = ((z.toInt.toNat : Nat) : Int)
    omega
  intro T hT X
  have hc0 : H[a0]? = some (vp_cell c0 (n0, .inl f)) := hP q0 _ ha0
  have hc1 : H[a]? = some (vp_cell c1 (n1, .inl g)) := hP q1 _ ha1
  obtain ⟨-, k0, hk0, cm0, hkk0⟩ := (hK.2 t0 _ ht0).1 n0 (fun j => .int (f j))
  obtain ⟨-, k1, hk1, cm1, hkk1⟩ := (hK.2 t1 _ ht1).1 n1 (fun j => .int (g j))
  obtain ⟨vm', X', step⟩ := X.arraycopy hexec hown hlink hnat hstat hini (src := a0) (dst := a) (cs := vp_cell c0 (n0, .inl f)) (cd := vp_cell c1 (n1, .inl g)) (srcPos := sp) (destPos := dp) (n := n) (by rw [hT]; exact hc0) (by rw [hT]; exact hc1)
    (fun _ h => by cases h) (fun _ h => by cases h) (fun h => by cases h) (fun h => by cases h) hk0 hk1 hkk0 hkk1 (by simp [hprim]) h1 h2 h3
    (by rw [nn sp h1, nn n h3]; show ¬ _ > ((arrV c0 n0 (fun j => .int (f j))).slots.size : Int); rw [arrV_size]; omega)
    (by rw [nn dp h2, nn n h3]; show ¬ _ > ((arrV c1 n1 (fun j => .int (g j))).slots.size : Int); rw [arrV_size]; omega)
    (fun vm₁ _ i hi => by
      have e : (vp_cell c0 (n0, .inl f)).slots.getD (sp.toNatClampNeg + i) .null = .int (f (sp.toNatClampNeg + i)) := by
        show (arrV c0 n0 (fun j => .int (f j))).slots.getD _ _ = _
        rw [Array.getD_eq_getD_getElem?, arrV_read _ _ (by omega)]
        rfl
      refine ⟨?_, ?_⟩
      · rw [e]
        exact hfit i hi
      · rw [e]
        exact trivial)
    (g := F0 m pc ls (.int n :: .int dp :: .ref a :: .int sp :: .ref a0 :: rest)) rfl (by rw [hml]) (rest := rest) rfl (by rw [hb]; exact hdg) hframes (by show 2 * 0 + _ + _ ≤ _; omega)
  have e1 : copied (vp_cell c0 (n0, .inl f)) (vp_cell c1 (n1, .inl g)) sp dp n = vp_cell c1 (n1, .inl (va_cpy f g sp.toNatClampNeg dp.toNatClampNeg n.toNatClampNeg)) := va_copied (fun z => .int z) c0 c1 f g h4
  rw [e1] at X' step
  have hl : a < H.size := (Array.getElem?_eq_some_iff.mp hc1).1
  have hheap : ((T.setVm vm').setCell a (vp_cell c1 (n1, .inl (va_cpy f g sp.toNatClampNeg dp.toNatClampNeg n.toNatClampNeg)))).heap = H.setIfInBounds a (vp_cell c1 (n1, .inl (va_cpy f g sp.toNatClampNeg dp.toNatClampNeg n.toNatClampNeg))) := by rw [← hT]; rfl
  have oq : ∀ q : Nat, q ≠ a → (H.setIfInBounds a (vp_cell c1 (n1, .inl (va_cpy f g sp.toNatClampNeg dp.toNatClampNeg n.toNatClampNeg))))[q]? = H[q]? := fun q hq => by simp [Array.getElem?_setIfInBounds, Ne.symm hq]
  obtain ⟨t, a1, b1⟩ := kk _ _ (hP.set hD ha1 (show (H.setIfInBounds a _)[a]? = some _ by simp [Array.getElem?_setIfInBounds, hl]) oq) ⟨by simp; exact hS.1, fun q g1 g2 => by
      rw [oq q (fun e => g2 (by rw [e]; exact hD.2 q1 _ ha1))]
      exact hS.2.1 q g1 g2, fun q hq => by
      rcases List.mem_append.mp hq with h | h
      · exact hS.2.2 q h
      · obtain ⟨z, -, hz⟩ := List.mem_map.mp h
        rw [← hz]
        exact hD.2 q1 _ ha1⟩ (by simp) _ hheap X'
  exact ⟨t, step t a1, b1⟩
end CopyRow
theorem q_cpy32 (f g : Nat → Int) (sp dp n : Nat) : va_cpy (fun j => Int32.ofInt (f j)) (fun j => Int32.ofInt (g j)) sp dp n = fun j => Int32.ofInt (qcpy f g sp dp n j) := by
  funext j
  unfold va_cpy qcpy
  split <;> rfl
/-- the words of a static method of the library -/
def qLb (own : String) (idx : Nat) (y : MethodName) (code : ByteArray) (nL : Nat) : Prop := Cond.methodLink own idx y ∈ qTbl ∧ Cond.static y ∈ qTbl ∧ Cond.initialized y.cls ∈ qTbl ∧ Cond.code y code nL (some .int) ∈ qTbl
section LibRules
variable {M : qM} {pc : Nat} {ls st : List qA} {h hr : qH} {r : Option qA}
theorem z_max {idx : Nat} {x y : Int} (hd : decode (qMc M) pc = .ok (.invokestatic idx, 3)) (hl : qLb (qMy M).cls idx Lib.Math.max.name Lib.Math.max.code 2) (hf : 1 ≤ qMf M) (hw : qCs st + 13 ≤ qMw M) (k : qEx M (pc + 3) ls (qI (if x < y then y else x) :: st) h r hr) : qEx M pc ls (qI y :: qI x :: st) h r hr := by
  unfold qEx at *
  refine ⟨k.1, k.2.1, fun G p l e s m args below meth c H locs cells slots mc ms lsA C hH hS hRl hRs hc hs hL => ?_⟩
  obtain ⟨hx, hb, hml, hrt, hown, hlk, hnm, hts, hK, hbs⟩ := id C
  have hRy : R32 y := qRs_head hRs
  have hRx : R32 x := qRs_head (qRs_tail hRs)
  have k2 := k.2.2 G p l e s m args below meth c H locs cells slots mc ms lsA C hH hS hRl (qRs_cons (show R32 _ by split <;> assumption) (qRs_tail (qRs_tail hRs))) hc hs hL
  obtain ⟨w1, w2, w3, w4⟩ := hl
  refine va_mmax hx hb (by rw [hml, hL.1]) hown (hts _ w1) (hts _ w2) (hts _ w3) (hts _ w4) hf (by rw [qCs_ok]; exact hw) (by show cells ≤ mc; omega) (by show slots ≤ ms; omega) hd ?_
  refine W.eq ?_ k2
  rw [List.map_cons, qV_i]
  by_cases q : x < y
  · rw [if_pos q, if_pos ((r32_lt hRx hRy).mpr q)]
  · rw [if_neg q, if_neg (fun z => q ((r32_lt hRx hRy).mp z))]
theorem z_min {idx : Nat} {x y : Int} (hd : decode (qMc M) pc = .ok (.invokestatic idx, 3)) (hl : qLb (qMy M).cls idx Lib.Math.min.name Lib.Math.min.code 2) (hf : 1 ≤ qMf M) (hw : qCs st + 13 ≤ qMw M) (k : qEx M (pc + 3) ls (qI (if y < x then y else x) :: st) h r hr) : qEx M pc ls (qI y :: qI x :: st) h r hr := by
  unfold qEx at *
  refine ⟨k.1, k.2.1, fun G p l e s m args below meth c H locs cells slots mc ms lsA C hH hS hRl hRs hc hs hL => ?_⟩
  obtain ⟨hx, hb, hml, hrt, hown, hlk, hnm, hts, hK, hbs⟩ := id C
  have hRy : R32 y := qRs_head hRs
  have hRx : R32 x := qRs_head (qRs_tail hRs)
  have k2 := k.2.2 G p l e s m args below meth c H locs cells slots mc ms lsA C hH hS hRl (qRs_cons (show R32 _ by split <;> assumption) (qRs_tail (qRs_tail hRs))) hc hs hL
  obtain ⟨w1, w2, w3, w4⟩ := hl
  refine va_mmin hx hb (by rw [hml, hL.1]) hown (hts _ w1) (hts _ w2) (hts _ w3) (hts _ w4) hf (by rw [qCs_ok]; exact hw) (by show cells ≤ mc; omega) (by show slots ≤ ms; omega) hd ?_
  refine W.eq ?_ k2
  rw [List.map_cons, qV_i]
  by_cases q : y < x
  · rw [if_pos q, if_pos ((r32_lt hRy hRx).mpr q)]
  · rw [if_neg q, if_neg (fun z => q ((r32_lt hRy hRx).mp z))]
theorem z_abs {idx : Nat} {x : Int} (hd : decode (qMc M) pc = .ok (.invokestatic idx, 3)) (hl : qLb (qMy M).cls idx Lib.Math.abs.name Lib.Math.abs.code 1) (hf : 1 ≤ qMf M) (hw : qCs st + 13 ≤ qMw M) (hx0 : -2147483647 ≤ x) (k : qEx M (pc + 3) ls (qI (if 0 ≤ x then x else 0 - x) :: st) h r hr) : qEx M pc ls (qI x :: st) h r hr := by
  unfold qEx at *
  refine ⟨k.1, k.2.1, fun G p l e s m args below meth c H locs cells slots mc ms lsA C hH hS hRl hRs hc hs hL => ?_⟩
  obtain ⟨hx, hb, hml, hrt, hown, hlk, hnm, hts, hK, hbs⟩ := id C
  have hRx : R32 x := qRs_head hRs
  have k2 := k.2.2 G p l e s m args below meth c H locs cells slots mc ms lsA C hH hS hRl (qRs_cons (show R32 _ by have := hRx.2; split <;> omega) (qRs_tail hRs)) hc hs hL
  obtain ⟨w1, w2, w3, w4⟩ := hl
  refine va_mabs hx hb (by rw [hml, hL.1]) hown (hts _ w1) (hts _ w2) (hts _ w3) (hts _ w4) hf (by rw [qCs_ok]; exact hw) (by show cells ≤ mc; omega) (by show slots ≤ ms; omega) hd ?_
  refine W.eq ?_ k2
  rw [List.map_cons, qV_i]
  by_cases q : 0 ≤ x
  · rw [if_pos q, if_pos (show (0 : Int32) ≤ Int32.ofInt x from (r32_le r32_0 hRx).mpr q)]
  · rw [if_neg q, if_neg (show ¬ (0 : Int32) ≤ Int32.ofInt x from fun z => q ((r32_le r32_0 hRx).mp z)), Int32.ofInt_sub]
    rfl
/-- the words of System.arraycopy -/
def qLc (own : String) (idx : Nat) : Prop := Cond.methodLink own idx arraycopyName ∈ qTbl ∧ Cond.native arraycopyName ∈ qTbl ∧ Cond.static arraycopyName ∈ qTbl ∧ Cond.initialized "java/lang/System" ∈ qTbl
theorem z_copy {idx a b n0 n1 : Nat} {f g : Nat → Int} {sp dp n : Int} (hd : decode (qMc M) pc = .ok (.invokestatic idx, 3)) (hl : qLc (qMy M).cls idx) (hf : 1 ≤ qMf M) (hw : qCs st + 18 ≤ qMw M) (ha : h.2.2 a = qAr 0 n0 f) (hb0 : h.2.2 b = qAr 0 n1 g) (ha1 : a ≠ 1) (hb1 : b ≠ 1) (h1 : 0 ≤ sp) (h2 : 0 ≤ dp) (h3 : 0 ≤ n) (h4 : sp + n ≤ n0) (h5 : dp + n ≤ n1)
    (k : qEx M (pc + 3) ls st (qset h b (qAr 0 n1 (qcpy f g sp.toNat dp.toNat n.toNat))) r hr) : qEx M pc ls (qI n :: qI dp :: qR b :: qI sp :: qR a :: st) h r hr := by
  unfold qEx at *
  refine ⟨k.1, k.2.1, fun G p l e s m args below meth c H locs cells slots mc ms lsA C hH hS hRl hRs hc hs hL => ?_⟩
  obtain ⟨hx, hb, hml, hrt, hown, hlk, hnm, hts, hK, hbs⟩ := id C
  have hRn : R32 n := qRs_head hRs
  have hRd : R32 dp := qRs_head (qRs_tail hRs)
  have hRsp : R32 sp := qRs_head (qRs_tail (qRs_tail (qRs_tail hRs)))
  have hRst : qRs st := qRs_tail (qRs_tail (qRs_tail (qRs_tail (qRs_tail hRs))))
  obtain ⟨a2, a3⟩ := qHR_gea hH ha ha1
  obtain ⟨b2, b3⟩ := qHR_gea hH hb0 hb1
  have wa := qW_at (G := G) (h := h) a2 a3
  have wb := qW_at (G := G) (h := h) b2 b3
  rw [ha] at wa
  rw [hb0] at wb
  have wa : (qW G h)[a - 2]? = some (qAd G a, .inl (qAC G 0, n0, .inl (fun j => Int32.ofInt (f j)))) := wa
  have wb : (qW G h)[b - 2]? = some (qAd G b, .inl (qAC G 0, n1, .inl (fun j => Int32.ofInt (g j)))) := wb
  have ra := hH.1.2.2.2.1 a
  have rb := hH.1.2.2.2.1 b
  rw [ha] at ra
  rw [hb0] at rb
  have hRc : qRc (qAr 0 n1 (qcpy f g sp.toNat dp.toNat n.toNat)) := by
    intro j
    show R32 (qcpy f g sp.toNat dp.toNat n.toNat j)
    unfold qcpy
    split
    · exact qRc_at ra _ (by decide)
    · exact qRc_at rb _ (by decide)
  have neg : ∀ z : Int, R32 z → 0 ≤ z → ¬ Int32.ofInt z < 0 := fun z hz h0 q => by
    rw [show (0 : Int32) = Int32.ofInt 0 from rfl, r32_lt hz r32_0] at q
    omega
  obtain ⟨w1, w2, w3, w4⟩ := hl
  refine qs_copyi (D := qD G) (A := qFree G) hx hb (by rw [hml, hL.1]) hown (hts _ w1) (hts _ w2) (hts _ w3) (hts _ w4) hK.1 hH.2.2.2.2 (qW_D G h) hS (a - 2) (b - 2) 0 0 wa wb rfl rfl rfl (neg sp hRsp h1) (neg dp hRd h2) (neg n hRn h3) (by rw [r32_nat hRsp, r32_nat hRn]; omega) (by rw [r32_nat hRd, r32_nat hRn]; omega) (fun i _ => rfl) hf (by rw [qCs_ok]; exact hw) hd (fun H1 locs1 hP1 hS1 hz => ?_)
  rw [r32_nat hRsp, r32_nat hRn, r32_nat hRd, q_cpy32] at hP1
  have hH1 := qHR_put (c := qAr 0 n1 (qcpy f g sp.toNat dp.toNat n.toNat)) hH b2 b3 hRc hS hS1 hbs hP1 hz
  exact k.2.2 G p l e s m args below meth c H1 locs1 cells slots mc ms lsA C hH1 hS1 hRl hRst hc hs hL
end LibRules
