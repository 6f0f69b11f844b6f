/-- what is known of a class -/
def qCl (C : String) (T : u_T) (N : Nat) : Prop := (∀ w ∈ u_ws C T N, w ∈ lw_tbl) ∧ (∃ ty : Nat → FieldType, ∀ k, k < N → parseFieldDescriptor (T k).2.2.1 = some (ty k)) ∧ ∀ a, a < N → ∀ b, b < N → a ≠ b → (T a).2.1 ≠ (T b).2.1
theorem qCl_ok {ci N : Nat} {C : String} {T : u_T} (h : vwCl[ci]? = some (C, T, N)) : qCl C T N := by
  match ci, h with
  | 0, h => cases h; exact ⟨iX0, ⟨_, tyX0_ok⟩, nmX0⟩
  | 1, h => cases h; exact ⟨iX1, ⟨_, tyX1_ok⟩, nmX1⟩
  | 2, h => cases h; exact ⟨iX2, ⟨_, tyX2_ok⟩, nmX2⟩
  | 3, h => cases h; exact ⟨iX3, ⟨_, tyX3_ok⟩, nmX3⟩
  | 4, h => cases h; exact ⟨iX4, ⟨_, tyX4_ok⟩, nmX4⟩
  | 5, h => cases h; exact ⟨iX5, ⟨_, tyX5_ok⟩, nmX5⟩
  | 6, h => cases h; exact ⟨iX6, ⟨_, tyX6_ok⟩, nmX6⟩
  | 7, h => cases h; exact ⟨iX7, ⟨_, tyX7_ok⟩, nmX7⟩
  | 8, h => cases h; exact ⟨iX8, ⟨_, tyX8_ok⟩, nmX8⟩
  | 9, h => cases h; exact ⟨iX9, ⟨_, tyX9_ok⟩, nmX9⟩
  | 10, h => cases h; exact ⟨iX10, ⟨_, tyX10_ok⟩, nmX10⟩
  | 11, h => cases h; exact ⟨iX11, ⟨_, tyX11_ok⟩, nmX11⟩
  | 12, h => cases h; exact ⟨iX12, ⟨_, tyX12_ok⟩, nmX12⟩
  | n + 13, h => simp at h
theorem qCl_lt {ci : Nat} {q : vw_C} (h : vwCl[ci]? = some q) : ci < 13 := (List.getElem?_eq_some_iff.mp h).1
theorem u_lay_good (C : String) (T : u_T) (k : Nat) : goodWord (u_lay C T k) = true := by
  unfold u_lay
  split <;> rfl
theorem qTbl_lay {C : String} {T : u_T} {N : Nat} (h : ∀ w ∈ u_ws C T N, w ∈ lw_tbl) : ∀ w ∈ u_ws C T N, w ∈ qTbl := by
  intro w hw
  refine List.mem_filter.mpr ⟨h w hw, ?_⟩
  obtain ⟨k, -, rfl⟩ := List.mem_map.mp hw
  exact u_lay_good C T k
/-- entry idx of the class own names field k of class ci -/
def qFL (own : String) (idx ci k : Nat) : Prop := ∃ (C : String) (T : u_T) (N : Nat), vwCl[ci]? = some (C, T, N) ∧ k < N ∧ (Cond.fieldLink own idx (T k).1 (T k).2.1 (T k).2.2.1 ∈ qTbl ∨ ∃ host, Cond.fieldLinkNest own idx (T k).1 (T k).2.1 (T k).2.2.1 host ∈ lw_tbl)
/-- .. and it can be put, with a value of type ty; f: it is final, and own's -/
def qFP (own : String) (idx ci k : Nat) (ty : FieldType) (f : Bool) : Prop := ∃ (C : String) (T : u_T) (N : Nat), vwCl[ci]? = some (C, T, N) ∧ k < N ∧ parseFieldDescriptor (T k).2.2.1 = some ty ∧ (T k).2.2.2 = f ∧ (f = true → (T k).1 = own) ∧ (Cond.fieldLink own idx (T k).1 (T k).2.1 (T k).2.2.1 ∈ qTbl ∨ (f = false ∧ ∃ host, Cond.fieldLinkNest own idx (T k).1 (T k).2.1 (T k).2.2.1 host ∈ lw_tbl))
theorem qHR_ge {G : qG} {h : qH} {H : Heap} {a ci : Nat} {fs : List qA} {q : vw_C} (hH : qHR G h H) (he : h.2.2 a = qOb ci fs) (hc : vwCl[ci]? = some q) : 2 ≤ a ∧ a < h.1 := by
  have hlt := qCl_lt hc
  obtain ⟨hF, -⟩ := hH
  have h0 : a ≠ 0 := qF_ne0 hF he (fun e => by injection e with e; injection e with e1 e2; omega)
  have h1 : a < h.1 := qF_lt hF he (fun e => by injection e with e; injection e with e1 e2; omega)
  have h2 : a ≠ 1 := by
    intro e
    subst e
    obtain ⟨n, f, q⟩ := hF.2.2.2.2
    rw [he] at q
    cases q
  omega
theorem qHR_gea {G : qG} {h : qH} {H : Heap} {a : Nat} {c : (Nat × Nat × (Nat → Int)) ⊕ (Nat × Nat × (Nat → Option Nat))} (hH : qHR G h H) (he : h.2.2 a = .inr c) (h1 : a ≠ 1) : 2 ≤ a ∧ a < h.1 := by
  obtain ⟨hF, -⟩ := hH
  have h0 : a ≠ 0 := qF_ne0 hF he (fun e => by cases e)
  have h1 : a < h.1 := qF_lt hF he (fun e => by cases e)
  omega
theorem qHR_put {G : qG} {h : qH} {H H1 : Heap} {s : State} {locs locs1 : List Loc} {a : Nat} {c : qC} (hH : qHR G h H) (h2 : 2 ≤ a) (ha : a < h.1) (hc : qRc c) (hS : va_S (qFree G) s.heap H locs) (hS1 : va_S (qFree G) s.heap H1 locs1) (hbs : qB G ≤ s.heap.size)
    (hP1 : va_P (qD G) vwCl ((qW G h).set (a - 2) (qAd G a, qE G c)) H1) (hz : H1.size = H.size) : qHR G (qset h a c) H1 := by
  obtain ⟨hF, hSc, hz0, hb0, hP⟩ := hH
  have hq : ∀ q, q < qB G → H1[q]? = H[q]? := fun q hq => (hS1.2.1 q (by omega) (fun z => absurd (show qB G ≤ q from z) (by omega))).trans (hS.2.1 q (by omega) (fun z => absurd (show qB G ≤ q from z) (by omega))).symm
  refine ⟨qF_set hF h2 ha hc, ?_, by rw [hz, hz0]; rfl, fun q hq1 => (hq q hq1).trans (hb0 q hq1), by rw [← qW_set h2 ha]; exact hP1⟩
  obtain ⟨n, f, cell, e1, e2⟩ := hSc
  exact ⟨n, f, cell, by rw [qset_ne (by omega)]; exact e1, e2⟩
theorem qHR_new {G : qG} {h : qH} {H H1 : Heap} {c : qC} {k : Nat} (hH : qHR G h H) (hc : qRc c) (hat : va_at (qD G) vwCl (qAd G h.1, qE G c) H1) (hz : H1.size = H.size + 1) (hq : ∀ q, q < H.size → H1[q]? = H[q]?) : qHR G (qnew h c k) H1 := by
  obtain ⟨hF, hSc, hz0, hb0, hP⟩ := hH
  have h2 := hF.1
  have hn : (qnew h c k).1 = h.1 + 1 := rfl
  refine ⟨qF_new hF hc, ?_, by rw [hz, hz0, hn]; omega, fun q hq1 => (hq q (by omega)).trans (hb0 q hq1), ?_⟩
  · obtain ⟨n, f, cell, e1, e2⟩ := hSc
    exact ⟨n, f, cell, by rw [qnew_ne (by omega)]; exact e1, e2⟩
  · rw [← qW_push h2]
    refine va_P.app (hP.kept (fun i x hx => ?_)) (fun i x hx => ?_)
    · exact hq x.1 ((hP i x hx).lt)
    · have hz : i < 1 := (List.getElem?_eq_some_iff.mp hx).1
      rw [show i = 0 by omega] at hx
      cases hx
      exact hat
theorem qS_new {G : qG} {s : State} {H H1 : Heap} {locs : List Loc} (hS : va_S (qFree G) s.heap H locs) (hz : H1.size = H.size + 1) (hq : ∀ q, q < H.size → H1[q]? = H[q]?) : va_S (qFree G) s.heap H1 locs :=
  ⟨Nat.le_trans hS.1 (by omega), fun x h1 h2 => (hq x (Nat.lt_of_lt_of_le h1 hS.1)).trans (hS.2.1 x h1 h2), hS.2.2⟩
section Puts
variable {p : Program} {l : Launch} {e : Env} {R : Room} {s : State} {m : MethodId} {args : Array Value} {below : List Frame} {meth : Method} {c : Code} {H : Heap} {locs : List Loc} {cells slots : Nat} {Q : State → Prop}
variable {cc : ByteArray} {pc : Nat} {ls : Array Slot} {rest : List Value} {D : va_G} {cl : List vw_C} {A : Nat → Prop} {a : Nat} {tys : List (ClassId × FieldType)} {ws : va_W} {H0 : Heap}
/-- a field is put (plain, nest mate's, final in a constructor); the heap keeps its size -/
theorem qs_put (hexec : p.tables.exec = Jvm.exec) (hb : c.code = cc) {own C : String} {T : u_T} {N ci index : Nat} {Ts : List Cond} (hts : ∀ w ∈ Ts, w.before args s = true) (hin : ∀ w ∈ u_ws C T N, w ∈ Ts) (ty0 : Nat → FieldType) (hty : ∀ k, k < N → parseFieldDescriptor (T k).2.2.1 = some (ty0 k)) (hnm : ∀ a, a < N → ∀ b, b < N → a ≠ b → (T a).2.1 ≠ (T b).2.1) (hown : s.vm.findClass own = some m.cls) (hK : va_K D cl tys s) (hP : va_P D cl ws H) (hD : va_D A ws) (hS0 : va_S A H0 H locs) (q0 : Nat) {fs : List Value} (he : ws[q0]? = some (a, .inr (ci, fs))) (hc : cl[ci]? = some (C, T, N)) (k : Nat) (hk : k < N)
    (hlink : ((T k).2.2.2 = false ∧ ((Cond.fieldLink own index (T k).1 (T k).2.1 (T k).2.2.1).before args s = true ∨ ∃ host, (Cond.fieldLinkNest own index (T k).1 (T k).2.1 (T k).2.2.1 host).before args s = true)) ∨ ((T k).2.2.2 = true ∧ (Cond.fieldLink own index (T k).1 (T k).2.1 (T k).2.2.1).before args s = true ∧ meth.name = "<init>" ∧ (T k).1 = own)) {ty : FieldType} {v : Value} (hd : parseFieldDescriptor (T k).2.2.1 = some ty) (hn : narrow ty v = v) (hfit : fits ty v = true) (hl : k < fs.length)
    (hdg : decode cc pc = .ok (.putfield index, 3)) (kk : ∀ (H1 : Heap) (locs1 : List Loc), va_P D cl (ws.set q0 (a, .inr (ci, fs.set k v))) H1 → va_S A H0 H1 locs1 → H1.size = H.size → W p l e R s m args below meth c H1 locs1 cells slots Q (F0 m (pc + 3) ls rest)) : W p l e R s m args below meth c H locs cells slots Q (F0 m pc ls (v :: .ref a :: rest)) := by
  have hap := va_apart (own := own) hts hin ty0 hty hnm hK hc
  obtain ⟨r, h1, cell, q1, q2, q3, q4⟩ := hP q0 _ he
  have hr : r = (C, T, N) := Option.some.inj (h1.symm.trans hc)
  subst hr
  obtain ⟨hS, hfc, kC, hkC, hkind⟩ := hK.1 ci _ hc
  obtain ⟨cf, kf, fi, f, hi, hsl⟩ := hS k hk
  have hlay := hts _ (hin _ (u_in_lay hk))
  unfold u_lay at hlay
  have hst := (u_facts hfc hkC (u_lays hts hin hk) hi).1
  rcases hlink with ⟨hfin, hlink⟩ | ⟨hfin, hlink, hin2, hdecl⟩
  · rw [if_neg (by rw [hfin]; decide)] at hlay
    have h6 := u_store hfc hkC hkind hlay hi hd hn hfit
    rcases hlink with hlink | ⟨host, hlink⟩
    · refine W.putK hexec hb (f := f) ⟨hown, hlink, ⟨_, _, _, hi⟩, hst⟩ (by rw [q2]; exact h6) q1 q3 (by rw [hsl]; exact k2_hasslot (q4 k hk)) rfl rfl hdg fun H' e1 e2 e3 => ?_
      rw [hsl] at e1 ⊢
      exact kk H' _ (hP.set hD he ⟨_, hc, t_OB.to (V := updV (vp_V fs) k v) ⟨_, e1, q2, q3, t_set q4 hap hk v⟩ (fun j _ => vp_updV_set hl v j)⟩ e3) (hS0.put e2 e3 (hD.2 q0 _ he)) e2
    · refine va_WputK hexec hb (f := f) hown hlink hi hst (by rw [q2]; exact h6) q1 q3 (by rw [hsl]; exact k2_hasslot (q4 k hk)) rfl rfl hdg fun H' e1 e2 e3 => ?_
      rw [hsl] at e1 ⊢
      exact kk H' _ (hP.set hD he ⟨_, hc, t_OB.to (V := updV (vp_V fs) k v) ⟨_, e1, q2, q3, t_set q4 hap hk v⟩ (fun j _ => vp_updV_set hl v j)⟩ e3) (hS0.put e2 e3 (hD.2 q0 _ he)) e2
  · rw [if_pos hfin] at hlay
    have hcf : m.cls = cf := by
      obtain ⟨_, _, c', _, _, _, -, -, hf', -, -, -, hown2, -⟩ := Cond.laysFinal_spec hlay
      have e1 : c' = cf := by have := hi.symm.trans hf'; simp at this; exact this.1.symm
      rw [hdecl] at hown2
      rw [← e1]; exact Option.some.inj (hown.symm.trans hown2)
    have h6 := u_fits hfc hkC hkind (Or.inr hlay) hi hd hn hfit
    refine W.putFinK hexec hb hown hlink hi hst hcf hin2 (by rw [q2]; exact h6) q1 q3 (by rw [hsl]; exact k2_hasslot (q4 k hk)) rfl rfl hdg fun H' e1 e2 e3 => ?_
    rw [hsl] at e1 ⊢
    exact kk H' _ (hP.set hD he ⟨_, hc, t_OB.to (V := updV (vp_V fs) k v) ⟨_, e1, q2, q3, t_set q4 hap hk v⟩ (fun j _ => vp_updV_set hl v j)⟩ e3) (hS0.put e2 e3 (hD.2 q0 _ he)) e2
theorem qs_iast (hexec : p.tables.exec = Jvm.exec) (hb : c.code = cc) (hK : va_K D cl tys s) (hP : va_P D cl ws H) (hD : va_D A ws) (hS : va_S A H0 H locs) (q0 t0 : Nat) {cA : ClassId} {n : Nat} {f : Nat → Int32} (ha : ws[q0]? = some (a, .inl (cA, n, .inl f))) (ht : tys[t0]? = some (cA, .int)) {i : Int32} {x : Int32} (hin : vp_in i n) (hdg : decode cc pc = .ok (.iastore, 1))
    (kk : ∀ (H1 : Heap) (locs1 : List Loc), va_P D cl (ws.set q0 (a, .inl (cA, n, .inl (upd f i.toNatClampNeg x)))) H1 → va_S A H0 H1 locs1 → H1.size = H.size → W p l e R s m args below meth c H1 locs1 cells slots Q (F0 m (pc + 1) ls rest)) : W p l e R s m args below meth c H locs cells slots Q (F0 m pc ls (.int x :: .int i :: .ref a :: rest)) := by
  refine W.iast hexec hb (hP q0 _ ha) ((hK.2 t0 _ ht).1 n (fun j => .int (f j))) (fun q => by cases q) (by show ¬ (i < 0 ∨ (arrV _ _ _).slots.size ≤ _); rw [arrV_size]; exact hin) rfl rfl hdg fun H1 e z oq => ?_
  refine kk H1 _ (hP.set hD ha ?_ oq) (hS.put z oq (hD.2 q0 _ ha)) z
  show H1[a]? = some (vp_cell _ _)
  rw [e, vp_cell_i, vp_cell_i, arrV_store]
  congr 2
  funext q
  by_cases hq : q = i.toNatClampNeg
  · subst hq
    simp [updV, upd]
  · simp [updV, upd, hq]
theorem qs_last (hexec : p.tables.exec = Jvm.exec) (hb : c.code = cc) (hK : va_K D cl tys s) (hP : va_P D cl ws H) (hD : va_D A ws) (hS : va_S A H0 H locs) (q0 t0 : Nat) {cA : ClassId} {n : Nat} {f : Nat → Int64} (ha : ws[q0]? = some (a, .inl (cA, n, .inr (.inl f)))) (ht : tys[t0]? = some (cA, .long)) {i : Int32} {x : Int64} (hin : vp_in i n) (hdg : decode cc pc = .ok (.lastore, 1))
    (kk : ∀ (H1 : Heap) (locs1 : List Loc), va_P D cl (ws.set q0 (a, .inl (cA, n, .inr (.inl (vp_updL f i.toNatClampNeg x))))) H1 → va_S A H0 H1 locs1 → H1.size = H.size → W p l e R s m args below meth c H1 locs1 cells slots Q (F0 m (pc + 1) ls rest)) : W p l e R s m args below meth c H locs cells slots Q (F0 m pc ls (.long x :: .int i :: .ref a :: rest)) := by
  refine W.last hexec hb (hP q0 _ ha) ((hK.2 t0 _ ht).1 n (fun j => .long (f j))) (fun q => by cases q) (by show ¬ (i < 0 ∨ (arrV _ _ _).slots.size ≤ _); rw [arrV_size]; exact hin) rfl rfl hdg fun H1 e z oq => ?_
  refine kk H1 _ (hP.set hD ha ?_ oq) (hS.put z oq (hD.2 q0 _ ha)) z
  show H1[a]? = some (vp_cell _ _)
  rw [e, vp_cell_l, vp_cell_l, arrV_store]
  congr 2
  funext q
  by_cases hq : q = i.toNatClampNeg
  · subst hq
    simp [updV, vp_updL]
  · simp [updV, vp_updL, hq]
theorem qs_zast (hexec : p.tables.exec = Jvm.exec) (hb : c.code = cc) (hK : va_K D cl tys s) (hP : va_P D cl ws H) (hD : va_D A ws) (hS : va_S A H0 H locs) (q0 t0 : Nat) {cA : ClassId} {n : Nat} {f : Nat → Int32} (ha : ws[q0]? = some (a, .inl (cA, n, .inl f))) (ht : tys[t0]? = some (cA, .boolean)) {i : Int32} {x : Int32} (hin : vp_in i n) (hdg : decode cc pc = .ok (.bastore, 1))
    (kk : ∀ (H1 : Heap) (locs1 : List Loc), va_P D cl (ws.set q0 (a, .inl (cA, n, .inl (upd f i.toNatClampNeg (vp_nar .boolean x))))) H1 → va_S A H0 H1 locs1 → H1.size = H.size → W p l e R s m args below meth c H1 locs1 cells slots Q (F0 m (pc + 1) ls rest)) : W p l e R s m args below meth c H locs cells slots Q (F0 m pc ls (.int x :: .int i :: .ref a :: rest)) := by
  refine W.zast hexec hb (hP q0 _ ha) ((hK.2 t0 _ ht).1 n (fun j => .int (f j))) (fun q => by cases q) (by show ¬ (i < 0 ∨ (arrV _ _ _).slots.size ≤ _); rw [arrV_size]; exact hin) rfl rfl hdg fun H1 e z oq => ?_
  refine kk H1 _ (hP.set hD ha ?_ oq) (hS.put z oq (hD.2 q0 _ ha)) z
  show H1[a]? = some (vp_cell _ _)
  rw [e, vp_cell_i, vp_cell_i, arrV_store]
  congr 2
  funext q
  by_cases hq : q = i.toNatClampNeg
  · subst hq
    simp [updV, upd, vp_nar, narrow]
  · simp [updV, upd, hq]
theorem qs_astq (hexec : p.tables.exec = Jvm.exec) (hb : c.code = cc) (hK : va_K D cl tys s) (hP : va_P D cl ws H) (hD : va_D A ws) (hS : va_S A H0 H locs) (q0 t0 qk ci : Nat) {cA : ClassId} {r : vw_C} {n v : Nat} {vs : List Value} {f : Nat → Option Nat} (ha : ws[q0]? = some (a, .inl (cA, n, .inr (.inr (.inr (.inr f)))))) (ht : tys[t0]? = some (cA, .object r.1)) (hv : ws[qk]? = some (v, .inr (ci, vs))) (hc : cl[ci]? = some r) {i : Int32} (hin : vp_in i n) (hdg : decode cc pc = .ok (.aastore, 1))
    (kk : ∀ (H1 : Heap) (locs1 : List Loc), va_P D cl (ws.set q0 (a, .inl (cA, n, .inr (.inr (.inr (.inr (va_up f i.toNatClampNeg (some v)))))))) H1 → va_S A H0 H1 locs1 → H1.size = H.size → W p l e R s m args below meth c H1 locs1 cells slots Q (F0 m (pc + 1) ls rest)) : W p l e R s m args below meth c H locs cells slots Q (F0 m pc ls (.ref v :: .int i :: .ref a :: rest)) := by
  have hlt : i.toNatClampNeg < n := Nat.not_le.mp fun q => hin (Or.inr q)
  have h0 : ¬ i < 0 := fun q => hin (Or.inl q)
  obtain ⟨r', hr', cellV, g1, g2, g3, -⟩ := hP qk _ hv
  have hcls := (hK.1 ci r hc).2
  obtain ⟨kA, comp, k1, k2, k3, -⟩ := (hK.2 t0 _ ht).2
  have hcomp : comp = D.1 ci := Option.some.inj (k3.symm.trans hcls.1)
  subst hcomp
  obtain ⟨kC, hkC, -⟩ := hcls.2
  refine W.aast hexec hb (hP q0 _ ha) (fun q h => by cases h) (fun h => by cases h) k1 k2 rfl hkC ⟨h0, by show _ < (arrV _ _ _).slots.size; rw [arrV_size]; exact hlt⟩ g1 (fun q h => by rw [g3] at h; cases h) (by rw [g2]; exact hkC) (by rw [g2]; exact va_assign hcls) rfl rfl hdg fun H1 e z oq => ?_
  refine kk H1 _ (hP.set hD ha ?_ oq) (hS.put z oq (hD.2 q0 _ ha)) z
  show H1[a]? = some (vp_cell _ _)
  rw [e, vp_cell_q, vp_cell_q, arrV_store]
  congr 2
  funext q
  by_cases hq : q = i.toNatClampNeg
  · subst hq
    simp [updV, va_up, va_rf]
  · simp [updV, va_up, hq]
end Puts
section HeapRules
variable {M : qM} {pc : Nat} {ls st : List qA} {h hr : qH} {r : Option qA}
theorem z_getf {a idx ci k0 : Nat} {fs : List qA} {v : qA} (hd : decode (qMc M) pc = .ok (.getfield idx, 3)) (hl : qFL (qMy M).cls idx ci k0) (he : h.2.2 a = qOb ci fs) (hv : fs[k0]? = some v) (k : qEx M (pc + 3) ls (v :: st) h r hr) : qEx M pc ls (qR a :: st) h r hr := by
  unfold qEx at *
  refine ⟨k.1, k.2.1, fun G p l e s m args below meth c H locs cells slots mc ms lsA C hH hS hRl hRs hc hs hL => ?_⟩
  obtain ⟨hx, hb, hml, hrt, hown, hlk, hnm, hts, hK, hbs⟩ := id C
  obtain ⟨CN, T, N, hcl, hk, hlink⟩ := hl
  obtain ⟨ha2, ha1⟩ := qHR_ge hH he hcl
  have hRv : qRv v := by
    have h9 := hH.1.2.2.2.1 a
    rw [he] at h9
    exact qRs_at (l := fs) h9 hv
  have k2 := k.2.2 G p l e s m args below meth c H locs cells slots mc ms lsA C hH hS hRl (qRs_cons hRv (qRs_tail hRs)) hc hs hL
  have hw := qW_at (G := G) (h := h) ha2 ha1
  rw [he] at hw
  have hvm : (fs.map (qV G))[k0]? = some (qV G v) := by rw [List.getElem?_map, hv]; rfl
  rcases hlink with hlink | ⟨host, hlink⟩
  · exact va_get (D := qD G) hx hb hts (qTbl_lay (qCl_ok hcl).1) hown hK.1 hH.2.2.2.2 (a - 2) hw hcl k0 hk (hts _ hlink) (fun _ h9 => h9) hvm hd k2
  · exact va_getN (D := qD G) hx hb hts (qTbl_lay (qCl_ok hcl).1) hown hK.1 hH.2.2.2.2 (a - 2) hw hcl k0 hk (va_Nw.use rfl (hK.2.1 _ hlink rfl)) (fun _ h9 => h9) hvm hd k2
theorem qRc_set {ci k0 : Nat} {fs : List qA} {v : qA} (h : qRc (qOb ci fs)) (hv : qRv v) : qRc (qOb ci (fs.set k0 v)) := qRs_set (l := fs) h hv
theorem z_putf {a idx ci k0 : Nat} {fs fs' : List qA} {v : qA} {ty : FieldType} (hd : decode (qMc M) pc = .ok (.putfield idx, 3)) (hl : qFP (qMy M).cls idx ci k0 ty false) (he : h.2.2 a = qOb ci fs) (hn : ∀ G, narrow ty (qV G v) = qV G v) (hfit : ∀ G, fits ty (qV G v) = true) (hkl : k0 < fs.length) (hfs : fs.set k0 v = fs') (k : qEx M (pc + 3) ls st (qset h a (qOb ci fs')) r hr) : qEx M pc ls (v :: qR a :: st) h r hr := by
  unfold qEx at *
  refine ⟨k.1, k.2.1, fun G p l e s m args below meth c H locs cells slots mc ms lsA C hH hS hRl hRs hc hs hL => ?_⟩
  obtain ⟨hx, hb, hml, hrt, hown, hlk, hnm, hts, hK, hbs⟩ := id C
  obtain ⟨CN, T, N, hcl, hk, hty, hfin, -, hlink⟩ := hl
  obtain ⟨ha2, ha1⟩ := qHR_ge hH he hcl
  have hRc : qRc (qOb ci fs') := by
    have h9 := hH.1.2.2.2.1 a
    rw [he] at h9
    rw [← hfs]
    exact qRc_set h9 (qRs_head hRs)
  have hw := qW_at (G := G) (h := h) ha2 ha1
  rw [he] at hw
  have hD := qW_D G h
  have hmap : (fs.map (qV G)).set k0 (qV G v) = fs'.map (qV G) := by rw [← hfs, List.map_set]
  obtain ⟨ty0, hty0⟩ := (qCl_ok hcl).2.1
  refine qs_put (D := qD G) (A := qFree G) hx hb hts (qTbl_lay (qCl_ok hcl).1) ty0 hty0 (qCl_ok hcl).2.2 hown hK.1 hH.2.2.2.2 hD hS (a - 2) hw hcl k0 hk ?_ hty (hn G) (hfit G) (by rw [List.length_map]; exact hkl) hd (fun H1 locs1 hP1 hS1 hz => ?_)
  · rcases hlink with hlink | ⟨-, host, hlink⟩
    · exact Or.inl ⟨hfin, Or.inl (hts _ hlink)⟩
    · exact Or.inl ⟨hfin, Or.inr ⟨host, va_Nw.use rfl (hK.2.1 _ hlink rfl)⟩⟩
  · rw [hmap] at hP1
    have hH1 := qHR_put (c := qOb ci fs') hH ha2 ha1 hRc hS hS1 hbs hP1 hz
    exact k.2.2 G p l e s m args below meth c H1 locs1 cells slots mc ms lsA C hH1 hS1 hRl (qRs_tail (qRs_tail hRs)) hc hs hL
theorem z_putF {a idx ci k0 : Nat} {fs fs' : List qA} {v : qA} {ty : FieldType} (hd : decode (qMc M) pc = .ok (.putfield idx, 3)) (hl : qFP (qMy M).cls idx ci k0 ty true) (hi : (qMy M).name = "<init>") (he : h.2.2 a = qOb ci fs) (hn : ∀ G, narrow ty (qV G v) = qV G v) (hfit : ∀ G, fits ty (qV G v) = true) (hkl : k0 < fs.length) (hfs : fs.set k0 v = fs') (k : qEx M (pc + 3) ls st (qset h a (qOb ci fs')) r hr) : qEx M pc ls (v :: qR a :: st) h r hr := by
  unfold qEx at *
  refine ⟨k.1, k.2.1, fun G p l e s m args below meth c H locs cells slots mc ms lsA C hH hS hRl hRs hc hs hL => ?_⟩
  obtain ⟨hx, hb, hml, hrt, hown, hlk, hnm, hts, hK, hbs⟩ := id C
  obtain ⟨CN, T, N, hcl, hk, hty, hfin, hdecl, hlink⟩ := hl
  obtain ⟨ha2, ha1⟩ := qHR_ge hH he hcl
  have hRc : qRc (qOb ci fs') := by
    have h9 := hH.1.2.2.2.1 a
    rw [he] at h9
    rw [← hfs]
    exact qRc_set h9 (qRs_head hRs)
  have hw := qW_at (G := G) (h := h) ha2 ha1
  rw [he] at hw
  have hD := qW_D G h
  have hmap : (fs.map (qV G)).set k0 (qV G v) = fs'.map (qV G) := by rw [← hfs, List.map_set]
  obtain ⟨ty0, hty0⟩ := (qCl_ok hcl).2.1
  refine qs_put (D := qD G) (A := qFree G) hx hb hts (qTbl_lay (qCl_ok hcl).1) ty0 hty0 (qCl_ok hcl).2.2 hown hK.1 hH.2.2.2.2 hD hS (a - 2) hw hcl k0 hk ?_ hty (hn G) (hfit G) (by rw [List.length_map]; exact hkl) hd (fun H1 locs1 hP1 hS1 hz => ?_)
  · rcases hlink with hlink | ⟨hb9, -⟩
    · exact Or.inr ⟨hfin, hts _ hlink, hnm.trans hi, hdecl rfl⟩
    · cases hb9
  · rw [hmap] at hP1
    have hH1 := qHR_put (c := qOb ci fs') hH ha2 ha1 hRc hS hS1 hbs hP1 hz
    exact k.2.2 G p l e s m args below meth c H1 locs1 cells slots mc ms lsA C hH1 hS1 hRl (qRs_tail (qRs_tail hRs)) hc hs hL
/-! arrays -/
theorem qRc_at {t n : Nat} {f : Nat → Int} (h : qRc (qAr t n f)) (j : Nat) (ht : t ≠ 1) : R32 (f j) := by
  have := h j
  rw [if_neg ht] at this
  exact this
theorem qRc_at1 {n : Nat} {f : Nat → Int} (h : qRc (qAr 1 n f)) (j : Nat) : R64 (f j) := by
  have := h j
  rw [if_pos rfl] at this
  exact this
/-- contents with one place changed -/
def qup (f : Nat → Int) (i : Nat) (v : Int) : Nat → Int := fun j => if j = i then v else f j
theorem qup_eq (f : Nat → Int) (i : Nat) (v : Int) : qup f i v i = v := by simp [qup]
theorem qup_ne {f : Nat → Int} {i j : Nat} {v : Int} (h : j ≠ i) : qup f i v j = f j := by simp [qup, h]
theorem qRc_up {t n : Nat} {f : Nat → Int} {i : Nat} {v : Int} (h : qRc (qAr t n f)) (hv : if t = 1 then R64 v else R32 v) : qRc (qAr t n (qup f i v)) := by
  intro j
  by_cases e : j = i
  · subst e
    rw [qup_eq]
    exact hv
  · rw [qup_ne e]
    exact h j
theorem z_iaload {a n : Nat} {i : Int} {f : Nat → Int} (hd : decode (qMc M) pc = .ok (.iaload, 1)) (he : h.2.2 a = qAr 0 n f) (h0 : 0 ≤ i) (h1 : i < n) (k : qEx M (pc + 1) ls (qI (f i.toNat) :: st) h r hr) : qEx M pc ls (qI i :: qR a :: st) h r hr := by
  unfold qEx at *
  refine ⟨k.1, k.2.1, fun G p l e s m args below meth c H locs cells slots mc ms lsA C hH hS hRl hRs hc hs hL => ?_⟩
  obtain ⟨hx, hb, hml, hrt, hown, hlk, hnm, hts, hK, hbs⟩ := id C
  have hRi : R32 i := qRs_head hRs
  have hRf : R32 (f i.toNat) := by
    have h9 := hH.1.2.2.2.1 a
    rw [he] at h9
    exact qRc_at h9 _ (by decide)
  have k2 := k.2.2 G p l e s m args below meth c H locs cells slots mc ms lsA C hH hS hRl (qRs_cons (show R32 (f i.toNat) from hRf) (qRs_tail (qRs_tail hRs))) hc hs hL
  by_cases ha : a = 1
  · subst ha
    obtain ⟨n2, f2, cell, e1, e2, e3, e4, e5⟩ := hH.2.1
    rw [he] at e1
    cases e1
    have hlt : qScr G < qB G := (Array.getElem?_eq_some_iff.mp e2).1
    have hcell : H[qScr G]? = some cell := (hH.2.2.2.1 _ hlt).trans e2
    refine W.iald (a := qScr G) (j := Int32.ofInt i) hx hb hcell (hK.2.2.2.2.1 cell e2) e3 (by rw [e4]; exact r32_in_of hRi h0 h1) (by rw [r32_nat hRi]; exact e5 i.toNat (by omega)) rfl rfl hd ?_
    exact k2
  · obtain ⟨ha2, ha1⟩ := qHR_gea hH he ha
    have hw := qW_at (G := G) (h := h) ha2 ha1
    rw [he] at hw
    have hw : (qW G h)[a - 2]? = some (qAd G a, .inl (qAC G 0, n, .inl (fun j => Int32.ofInt (f j)))) := hw
    refine va_iald (D := qD G) hx hb hK.1 hH.2.2.2.2 (a - 2) 0 hw rfl (r32_in_of hRi h0 h1) hd ?_
    rw [r32_nat hRi]
    exact k2
theorem z_laload {a n : Nat} {i : Int} {f : Nat → Int} (hd : decode (qMc M) pc = .ok (.laload, 1)) (he : h.2.2 a = qAr 1 n f) (h0 : 0 ≤ i) (h1 : i < n) (k : qEx M (pc + 1) ls (qL (f i.toNat) :: st) h r hr) : qEx M pc ls (qI i :: qR a :: st) h r hr := by
  unfold qEx at *
  refine ⟨k.1, k.2.1, fun G p l e s m args below meth c H locs cells slots mc ms lsA C hH hS hRl hRs hc hs hL => ?_⟩
  obtain ⟨hx, hb, hml, hrt, hown, hlk, hnm, hts, hK, hbs⟩ := id C
  have hRi : R32 i := qRs_head hRs
  have hRf : R64 (f i.toNat) := by
    have h9 := hH.1.2.2.2.1 a
    rw [he] at h9
    exact qRc_at1 h9 _
  have k2 := k.2.2 G p l e s m args below meth c H locs cells slots mc ms lsA C hH hS hRl (qRs_cons (show R64 (f i.toNat) from hRf) (qRs_tail (qRs_tail hRs))) hc hs hL
  have ha : a ≠ 1 := by
    intro e9
    subst e9
    obtain ⟨n2, f2, e1⟩ := hH.1.2.2.2.2
    rw [he] at e1
    cases e1
  obtain ⟨ha2, ha1⟩ := qHR_gea hH he ha
  have hw := qW_at (G := G) (h := h) ha2 ha1
  rw [he] at hw
  have hw : (qW G h)[a - 2]? = some (qAd G a, .inl (qAC G 1, n, .inr (.inl (fun j => Int64.ofInt (f j))))) := hw
  refine va_lald (D := qD G) hx hb hK.1 hH.2.2.2.2 (a - 2) 1 hw rfl (r32_in_of hRi h0 h1) hd ?_
  rw [r32_nat hRi]
  exact k2
theorem z_baload {a n : Nat} {i : Int} {f : Nat → Int} (hd : decode (qMc M) pc = .ok (.baload, 1)) (he : h.2.2 a = qAr 2 n f) (h0 : 0 ≤ i) (h1 : i < n) (k : qEx M (pc + 1) ls (qI (f i.toNat) :: st) h r hr) : qEx M pc ls (qI i :: qR a :: st) h r hr := by
  unfold qEx at *
  refine ⟨k.1, k.2.1, fun G p l e s m args below meth c H locs cells slots mc ms lsA C hH hS hRl hRs hc hs hL => ?_⟩
  obtain ⟨hx, hb, hml, hrt, hown, hlk, hnm, hts, hK, hbs⟩ := id C
  have hRi : R32 i := qRs_head hRs
  have hRf : R32 (f i.toNat) := by
    have h9 := hH.1.2.2.2.1 a
    rw [he] at h9
    exact qRc_at h9 _ (by decide)
  have k2 := k.2.2 G p l e s m args below meth c H locs cells slots mc ms lsA C hH hS hRl (qRs_cons (show R32 (f i.toNat) from hRf) (qRs_tail (qRs_tail hRs))) hc hs hL
  have ha : a ≠ 1 := by
    intro e9
    subst e9
    obtain ⟨n2, f2, e1⟩ := hH.1.2.2.2.2
    rw [he] at e1
    cases e1
  obtain ⟨ha2, ha1⟩ := qHR_gea hH he ha
  have hw := qW_at (G := G) (h := h) ha2 ha1
  rw [he] at hw
  have hw : (qW G h)[a - 2]? = some (qAd G a, .inl (qAC G 2, n, .inl (fun j => Int32.ofInt (f j)))) := hw
  refine va_zald (D := qD G) hx hb hK.1 hH.2.2.2.2 (a - 2) 2 hw rfl (r32_in_of hRi h0 h1) hd ?_
  rw [r32_nat hRi]
  exact k2
theorem q_upd32 (f : Nat → Int) (i : Nat) (v : Int) : upd (fun j => Int32.ofInt (f j)) i (Int32.ofInt v) = fun j => Int32.ofInt (qup f i v j) := by
  funext j
  unfold upd qup
  split <;> rfl
theorem q_upd64 (f : Nat → Int) (i : Nat) (v : Int) : vp_updL (fun j => Int64.ofInt (f j)) i (Int64.ofInt v) = fun j => Int64.ofInt (qup f i v j) := by
  funext j
  unfold vp_updL qup
  split <;> rfl
theorem z_iastore {a n : Nat} {i v : Int} {f : Nat → Int} (hd : decode (qMc M) pc = .ok (.iastore, 1)) (he : h.2.2 a = qAr 0 n f) (ha : a ≠ 1) (h0 : 0 ≤ i) (h1 : i < n) (k : qEx M (pc + 1) ls st (qset h a (qAr 0 n (qup f i.toNat v))) r hr) : qEx M pc ls (qI v :: qI i :: qR a :: st) h r hr := by
  unfold qEx at *
  refine ⟨k.1, k.2.1, fun G p l e s m args below meth c H locs cells slots mc ms lsA C hH hS hRl hRs hc hs hL => ?_⟩
  obtain ⟨hx, hb, hml, hrt, hown, hlk, hnm, hts, hK, hbs⟩ := id C
  have hRv : R32 v := qRs_head hRs
  have hRi : R32 i := qRs_head (qRs_tail hRs)
  obtain ⟨ha2, ha1⟩ := qHR_gea hH he ha
  have hRc : qRc (qAr 0 n (qup f i.toNat v)) := by
    have h9 := hH.1.2.2.2.1 a
    rw [he] at h9
    exact qRc_up h9 hRv
  have hw := qW_at (G := G) (h := h) ha2 ha1
  rw [he] at hw
  have hw : (qW G h)[a - 2]? = some (qAd G a, .inl (qAC G 0, n, .inl (fun j => Int32.ofInt (f j)))) := hw
  refine qs_iast (D := qD G) (A := qFree G) hx hb hK.1 hH.2.2.2.2 (qW_D G h) hS (a - 2) 0 hw rfl (r32_in_of hRi h0 h1) hd (fun H1 locs1 hP1 hS1 hz => ?_)
  rw [r32_nat hRi, q_upd32] at hP1
  have hH1 := qHR_put (c := qAr 0 n (qup f i.toNat v)) hH ha2 ha1 hRc hS hS1 hbs hP1 hz
  exact k.2.2 G p l e s m args below meth c H1 locs1 cells slots mc ms lsA C hH1 hS1 hRl (qRs_tail (qRs_tail (qRs_tail hRs))) hc hs hL
theorem z_lastore {a n : Nat} {i v : Int} {f : Nat → Int} (hd : decode (qMc M) pc = .ok (.lastore, 1)) (he : h.2.2 a = qAr 1 n f) (ha : a ≠ 1) (h0 : 0 ≤ i) (h1 : i < n) (k : qEx M (pc + 1) ls st (qset h a (qAr 1 n (qup f i.toNat v))) r hr) : qEx M pc ls (qL v :: qI i :: qR a :: st) h r hr := by
  unfold qEx at *
  refine ⟨k.1, k.2.1, fun G p l e s m args below meth c H locs cells slots mc ms lsA C hH hS hRl hRs hc hs hL => ?_⟩
  obtain ⟨hx, hb, hml, hrt, hown, hlk, hnm, hts, hK, hbs⟩ := id C
  have hRv : R64 v := qRs_head hRs
  have hRi : R32 i := qRs_head (qRs_tail hRs)
  obtain ⟨ha2, ha1⟩ := qHR_gea hH he ha
  have hRc : qRc (qAr 1 n (qup f i.toNat v)) := by
    have h9 := hH.1.2.2.2.1 a
    rw [he] at h9
    exact qRc_up h9 hRv
  have hw := qW_at (G := G) (h := h) ha2 ha1
  rw [he] at hw
  have hw : (qW G h)[a - 2]? = some (qAd G a, .inl (qAC G 1, n, .inr (.inl (fun j => Int64.ofInt (f j))))) := hw
  refine qs_last (D := qD G) (A := qFree G) hx hb hK.1 hH.2.2.2.2 (qW_D G h) hS (a - 2) 1 hw rfl (r32_in_of hRi h0 h1) hd (fun H1 locs1 hP1 hS1 hz => ?_)
  rw [r32_nat hRi, q_upd64] at hP1
  have hH1 := qHR_put (c := qAr 1 n (qup f i.toNat v)) hH ha2 ha1 hRc hS hS1 hbs hP1 hz
  exact k.2.2 G p l e s m args below meth c H1 locs1 cells slots mc ms lsA C hH1 hS1 hRl (qRs_tail (qRs_tail (qRs_tail hRs))) hc hs hL
theorem z_bastore {a n : Nat} {i v : Int} {f : Nat → Int} (hd : decode (qMc M) pc = .ok (.bastore, 1)) (he : h.2.2 a = qAr 2 n f) (ha : a ≠ 1) (h0 : 0 ≤ i) (h1 : i < n) (hv : v = 0 ∨ v = 1) (k : qEx M (pc + 1) ls st (qset h a (qAr 2 n (qup f i.toNat v))) r hr) : qEx M pc ls (qI v :: qI i :: qR a :: st) h r hr := by
  unfold qEx at *
  refine ⟨k.1, k.2.1, fun G p l e s m args below meth c H locs cells slots mc ms lsA C hH hS hRl hRs hc hs hL => ?_⟩
  obtain ⟨hx, hb, hml, hrt, hown, hlk, hnm, hts, hK, hbs⟩ := id C
  have hRv : R32 v := qRs_head hRs
  have hRi : R32 i := qRs_head (qRs_tail hRs)
  obtain ⟨ha2, ha1⟩ := qHR_gea hH he ha
  have hRc : qRc (qAr 2 n (qup f i.toNat v)) := by
    have h9 := hH.1.2.2.2.1 a
    rw [he] at h9
    exact qRc_up h9 hRv
  have hw := qW_at (G := G) (h := h) ha2 ha1
  rw [he] at hw
  have hw : (qW G h)[a - 2]? = some (qAd G a, .inl (qAC G 2, n, .inl (fun j => Int32.ofInt (f j)))) := hw
  refine qs_zast (D := qD G) (A := qFree G) hx hb hK.1 hH.2.2.2.2 (qW_D G h) hS (a - 2) 2 hw rfl (r32_in_of hRi h0 h1) hd (fun H1 locs1 hP1 hS1 hz => ?_)
  rw [r32_nat hRi, show vp_nar .boolean (Int32.ofInt v) = Int32.ofInt v by rcases hv with rfl | rfl <;> rfl, q_upd32] at hP1
  have hH1 := qHR_put (c := qAr 2 n (qup f i.toNat v)) hH ha2 ha1 hRc hS hS1 hbs hP1 hz
  exact k.2.2 G p l e s m args below meth c H1 locs1 cells slots mc ms lsA C hH1 hS1 hRl (qRs_tail (qRs_tail (qRs_tail hRs))) hc hs hL
theorem z_alen {a n : Nat} {f : Nat → Int} (hd : decode (qMc M) pc = .ok (.arraylength, 1)) (he : h.2.2 a = qAr 0 n f) (hn : n ≤ 1000000) (k : qEx M (pc + 1) ls (qI n :: st) h r hr) : qEx M pc ls (qR a :: st) h r hr := by
  unfold qEx at *
  refine ⟨k.1, k.2.1, fun G p l e s m args below meth c H locs cells slots mc ms lsA C hH hS hRl hRs hc hs hL => ?_⟩
  obtain ⟨hx, hb, hml, hrt, hown, hlk, hnm, hts, hK, hbs⟩ := id C
  have k2 := k.2.2 G p l e s m args below meth c H locs cells slots mc ms lsA C hH hS hRl (qRs_cons (show R32 n from ⟨by omega, by omega⟩) (qRs_tail hRs)) hc hs hL
  by_cases ha : a = 1
  · subst ha
    obtain ⟨n2, f2, cell, e1, e2, e3, e4, e5⟩ := hH.2.1
    rw [he] at e1
    cases e1
    have hlt : qScr G < qB G := (Array.getElem?_eq_some_iff.mp e2).1
    have hcell : H[qScr G]? = some cell := (hH.2.2.2.1 _ hlt).trans e2
    refine W.alen (a := qScr G) (n := Int32.ofInt n) hx hb hcell (hK.2.2.2.2.1 cell e2) (by rw [e4, Int32.ofInt_eq_ofNat] <;> rfl) rfl rfl hd ?_
    exact k2
  · obtain ⟨ha2, ha1⟩ := qHR_gea hH he ha
    have hw := qW_at (G := G) (h := h) ha2 ha1
    rw [he] at hw
    have hw : (qW G h)[a - 2]? = some (qAd G a, .inl (qAC G 0, n, .inl (fun j => Int32.ofInt (f j)))) := hw
    refine va_alen (D := qD G) hx hb hK.1 hH.2.2.2.2 (a - 2) 0 hw rfl (v := Int32.ofInt n) (by rw [Int32.ofInt_eq_ofNat]) hd ?_
    exact k2
end HeapRules
