/-! ===== THE OWN MACHINE'S ROWS: new cells, arrays of references, the library's native and small ones ===== -/
theorem qK_arr {G : qG} {s : State} (hK : qK G s) {t : Nat} {ty : FieldType} (ht : (qTys G)[t]? = some (qAC G t, ty)) (hp : ∀ C, ty ≠ .object C) {cA : ClassId} (h : s.vm.findClass ("[" ++ ty.toString) = some cA) : cA = qAC G t := by
  have h9 := (hK.1.2 t _ ht).2
  have h8 : s.vm.findClass ("[" ++ ty.toString) = some (qAC G t) := by
    cases ty with
    | object C => exact absurd rfl (hp C)
    | _ => exact h9
  exact Option.some.inj (h.symm.trans h8)
section NewRules
variable {M : qM} {pc : Nat} {ls st : List qA} {h hr : qH} {r : Option qA}
theorem z_newI {n : Int} (hd : decode (qMc M) pc = .ok (.newarray .int, 2)) (hw : Cond.arrayClass .int ∈ qTbl) (h0 : 0 ≤ n) (h1 : n ≤ 100000) (k : qEx M (pc + 2) ls (qR h.1 :: st) (qnew h (qAr 0 n.toNat (fun _ => 0)) n.toNat) r hr) : qEx M pc ls (qI n :: st) h r hr := by
  unfold qEx at *
  have k1 : h.1 + 1 ≤ hr.1 := k.1
  have k3 : h.2.1 + n.toNat ≤ hr.2.1 := k.2.1
  refine ⟨by omega, by omega, fun G p l e s m args below meth c H locs cells slots mc ms lsA C hH hS hRl hRs hc hs hL => ?_⟩
  obtain ⟨hx, hb, hml, hrt, hown, hlk, hnm, hts, hK, hbs⟩ := id C
  have hRn : R32 n := qRs_head hRs
  refine va_newaK (atype := .int) hx hb (hts _ hw) rfl hd rfl (by rw [show (0 : Int32) = Int32.ofInt 0 from rfl, r32_lt hRn r32_0]; omega) (r32_nat hRn) (by show n.toNat * componentBytes .int ≤ _; simp only [componentBytes]; omega) (by show cells + 1 ≤ mc; omega) (by show slots + n.toNat ≤ ms; omega) rfl fun H1 cA e1 z1 o1 hAr hNm => ?_
  have hcA : cA = qAC G 0 := qK_arr hK (t := 0) (ty := .int) rfl (fun C h => by cases h) hNm
  subst hcA
  have hz := hH.2.2.1
  have ha : qAd G h.1 = H.size := by rw [qAd_of hH.1.1, hz]
  have hH1 := qHR_new (k := n.toNat) (c := qAr 0 n.toNat (fun _ => 0)) hH (fun j => by show R32 0; exact r32_0) (by show H1[qAd G h.1]? = some (vp_cell _ _); rw [ha]; exact e1) z1 o1
  have k2 := k.2.2 G p l e s m args below meth c H1 locs (cells + 1) (slots + n.toNat) mc ms lsA C hH1 (qS_new hS z1 o1) hRl (qRs_cons trivial (qRs_tail hRs)) (by show cells + 1 + (hr.1 - (h.1 + 1)) ≤ mc; omega) (by show slots + n.toNat + (hr.2.1 - (h.2.1 + n.toNat)) ≤ ms; omega) hL
  rw [List.map_cons, qV_r, ha] at k2
  exact k2
theorem z_newJ {n : Int} (hd : decode (qMc M) pc = .ok (.newarray .long, 2)) (hw : Cond.arrayClass .long ∈ qTbl) (h0 : 0 ≤ n) (h1 : n ≤ 100000) (k : qEx M (pc + 2) ls (qR h.1 :: st) (qnew h (qAr 1 n.toNat (fun _ => 0)) n.toNat) r hr) : qEx M pc ls (qI n :: st) h r hr := by
  unfold qEx at *
  have k1 : h.1 + 1 ≤ hr.1 := k.1
  have k3 : h.2.1 + n.toNat ≤ hr.2.1 := k.2.1
  refine ⟨by omega, by omega, fun G p l e s m args below meth c H locs cells slots mc ms lsA C hH hS hRl hRs hc hs hL => ?_⟩
  obtain ⟨hx, hb, hml, hrt, hown, hlk, hnm, hts, hK, hbs⟩ := id C
  have hRn : R32 n := qRs_head hRs
  refine va_newaK (atype := .long) hx hb (hts _ hw) rfl hd rfl (by rw [show (0 : Int32) = Int32.ofInt 0 from rfl, r32_lt hRn r32_0]; omega) (r32_nat hRn) (by show n.toNat * componentBytes .long ≤ _; simp only [componentBytes]; omega) (by show cells + 1 ≤ mc; omega) (by show slots + n.toNat ≤ ms; omega) rfl fun H1 cA e1 z1 o1 hAr hNm => ?_
  have hcA : cA = qAC G 1 := qK_arr hK (t := 1) (ty := .long) rfl (fun C h => by cases h) hNm
  subst hcA
  have hz := hH.2.2.1
  have ha : qAd G h.1 = H.size := by rw [qAd_of hH.1.1, hz]
  have hH1 := qHR_new (k := n.toNat) (c := qAr 1 n.toNat (fun _ => 0)) hH (fun j => by show R64 0; exact ⟨by decide, by decide⟩) (by show H1[qAd G h.1]? = some (vp_cell _ _); rw [ha]; exact e1) z1 o1
  have k2 := k.2.2 G p l e s m args below meth c H1 locs (cells + 1) (slots + n.toNat) mc ms lsA C hH1 (qS_new hS z1 o1) hRl (qRs_cons trivial (qRs_tail hRs)) (by show cells + 1 + (hr.1 - (h.1 + 1)) ≤ mc; omega) (by show slots + n.toNat + (hr.2.1 - (h.2.1 + n.toNat)) ≤ ms; omega) hL
  rw [List.map_cons, qV_r, ha] at k2
  exact k2
theorem z_newZ {n : Int} (hd : decode (qMc M) pc = .ok (.newarray .boolean, 2)) (hw : Cond.arrayClass .boolean ∈ qTbl) (h0 : 0 ≤ n) (h1 : n ≤ 100000) (k : qEx M (pc + 2) ls (qR h.1 :: st) (qnew h (qAr 2 n.toNat (fun _ => 0)) n.toNat) r hr) : qEx M pc ls (qI n :: st) h r hr := by
  unfold qEx at *
  have k1 : h.1 + 1 ≤ hr.1 := k.1
  have k3 : h.2.1 + n.toNat ≤ hr.2.1 := k.2.1
  refine ⟨by omega, by omega, fun G p l e s m args below meth c H locs cells slots mc ms lsA C hH hS hRl hRs hc hs hL => ?_⟩
  obtain ⟨hx, hb, hml, hrt, hown, hlk, hnm, hts, hK, hbs⟩ := id C
  have hRn : R32 n := qRs_head hRs
  refine va_newaK (atype := .boolean) hx hb (hts _ hw) rfl hd rfl (by rw [show (0 : Int32) = Int32.ofInt 0 from rfl, r32_lt hRn r32_0]; omega) (r32_nat hRn) (by show n.toNat * componentBytes .boolean ≤ _; simp only [componentBytes]; omega) (by show cells + 1 ≤ mc; omega) (by show slots + n.toNat ≤ ms; omega) rfl fun H1 cA e1 z1 o1 hAr hNm => ?_
  have hcA : cA = qAC G 2 := qK_arr hK (t := 2) (ty := .boolean) rfl (fun C h => by cases h) hNm
  subst hcA
  have hz := hH.2.2.1
  have ha : qAd G h.1 = H.size := by rw [qAd_of hH.1.1, hz]
  have hH1 := qHR_new (k := n.toNat) (c := qAr 2 n.toNat (fun _ => 0)) hH (fun j => by show R32 0; exact r32_0) (by show H1[qAd G h.1]? = some (vp_cell _ _); rw [ha]; exact e1) z1 o1
  have k2 := k.2.2 G p l e s m args below meth c H1 locs (cells + 1) (slots + n.toNat) mc ms lsA C hH1 (qS_new hS z1 o1) hRl (qRs_cons trivial (qRs_tail hRs)) (by show cells + 1 + (hr.1 - (h.1 + 1)) ≤ mc; omega) (by show slots + n.toNat + (hr.2.1 - (h.2.1 + n.toNat)) ≤ ms; omega) hL
  rw [List.map_cons, qV_r, ha] at k2
  exact k2
/-- an object of class ci, its fields as they begin -/
def qDf (ty : FieldType) : qA := match ty with
  | .long => qL 0
  | .object _ => qN
  | .array _ => qN
  | _ => qI 0
def qDok (ty : FieldType) : Bool := match ty with
  | .long => true
  | .object _ => true
  | .array _ => true
  | .int => true
  | .boolean => true
  | _ => false
theorem qDf_ok (G : qG) (ty : FieldType) (h : qDok ty = true) : qV G (qDf ty) = defaultValue ty := by
  cases ty <;> first | rfl | (simp [qDok] at h; done)
theorem qDf_R (ty : FieldType) : qRv (qDf ty) := by
  cases ty <;> first | exact trivial | exact r32_0 | exact (⟨by decide, by decide⟩ : R64 0)
def qNw (own : String) (idx ci : Nat) (fs : List qA) : Prop := ∃ (C : String) (T : u_T) (N : Nat) (ty : Nat → FieldType), vwCl[ci]? = some (C, T, N) ∧ Cond.classLink own idx C ∈ qTbl ∧ Cond.instantiable C N ∈ qTbl ∧ Cond.initialized C ∈ qTbl ∧ (∀ k, k < N → parseFieldDescriptor (T k).2.2.1 = some (ty k)) ∧ (∀ k, k < N → qDok (ty k) = true) ∧ fs = (List.range N).map (fun k => qDf (ty k))
theorem z_new {idx ci : Nat} {fs : List qA} (hd : decode (qMc M) pc = .ok (.new idx, 3)) (hn : qNw (qMy M).cls idx ci fs) (k : qEx M (pc + 3) ls (qR h.1 :: st) (qnew h (qOb ci fs) fs.length) r hr) : qEx M pc ls st h r hr := by
  unfold qEx at *
  have k1 : h.1 + 1 ≤ hr.1 := k.1
  have k3 : h.2.1 + fs.length ≤ hr.2.1 := k.2.1
  refine ⟨by omega, by omega, fun G p l e s m args below meth c H locs cells slots mc ms lsA C hH hS hRl hRs hc hs hL => ?_⟩
  obtain ⟨hx, hb, hml, hrt, hown, hlk, hnm, hts, hK, hbs⟩ := id C
  obtain ⟨CN, T, N, ty, hcl, w1, w2, w3, hty, hok, hfs⟩ := hn
  have hN : fs.length = N := by rw [hfs, List.length_map, List.length_range]
  have hKn := hK.1.1 ci _ hcl
  have hz := hH.2.2.1
  have ha : qAd G h.1 = H.size := by rw [qAd_of hH.1.1, hz]
  refine W.newcK hx hb hown (hts _ w1) (hts _ w2) (hts _ w3) rfl hd (by show cells + 1 ≤ mc; omega) (by show slots + N ≤ ms; omega) hKn.2.1 rfl fun H1 kC hkC e1 z1 o1 => ?_
  have hat : va_at (qD G) vwCl (qAd G h.1, qE G (qOb ci fs)) H1 := by
    refine ⟨_, hcl, ?_⟩
    show t_OB (qAd G h.1) _ _ _ H1 (vp_V (fs.map (qV G)))
    rw [ha]
    refine (u_born ty hts (qTbl_lay (qCl_ok hcl).1) hKn hkC e1 hty).to (fun j hj => ?_)
    have hj : j < N := hj
    rw [hfs]
    simp only [vp_V, List.map_map, List.getD_eq_getElem?_getD, List.getElem?_map, List.getElem?_range hj, Option.map_some, Option.getD_some, Function.comp_apply]
    exact (qDf_ok G (ty j) (hok j hj)).symm
  have hRc : qRc (qOb ci fs) := by
    show qRs fs
    intro v hv
    rw [hfs] at hv
    obtain ⟨j, -, rfl⟩ := List.mem_map.mp hv
    exact qDf_R _
  have hH1 := qHR_new (k := fs.length) hH hRc hat z1 o1
  have k2 := k.2.2 G p l e s m args below meth c H1 locs (cells + 1) (slots + N) mc ms lsA C hH1 (qS_new hS z1 o1) hRl (qRs_cons trivial hRs) (by show cells + 1 + (hr.1 - (h.1 + 1)) ≤ mc; omega) (by show slots + N + (hr.2.1 - (h.2.1 + fs.length)) ≤ ms; omega) hL
  rw [List.map_cons, qV_r, ha] at k2
  exact k2
/-! arrays of references: classes 2 (pages) and 10 (walls) -/
def qRt (c : Nat) (t0 : Nat) (C : String) : Prop := (c = 2 ∧ t0 = 3 ∧ C = RX2) ∨ (c = 10 ∧ t0 = 4 ∧ C = RX10)
theorem qRt_tys {G : qG} {c t0 : Nat} {C : String} (h : qRt c t0 C) : (qTys G)[t0]? = some (qAC G (10 + c), .object C) := by
  rcases h with ⟨rfl, rfl, rfl⟩ | ⟨rfl, rfl, rfl⟩ <;> rfl
theorem qRt_cl {c t0 : Nat} {C : String} (h : qRt c t0 C) : ∃ q : vw_C, vwCl[c]? = some q ∧ q.1 = C := by
  rcases h with ⟨rfl, rfl, rfl⟩ | ⟨rfl, rfl, rfl⟩
  · exact ⟨_, rfl, rfl⟩
  · exact ⟨_, rfl, rfl⟩
theorem qRt_ao {G : qG} {s : State} {c t0 : Nat} {C : String} (h : qRt c t0 C) (hK : qK G s) : va_AO C s := by
  rcases h with ⟨rfl, rfl, rfl⟩ | ⟨rfl, rfl, rfl⟩
  · exact hK.2.2.1
  · exact hK.2.2.2.1
theorem z_anew {n : Int} {idx c0 t0 : Nat} {C0 : String} (hd : decode (qMc M) pc = .ok (.anewarray idx, 3)) (hq : qRt c0 t0 C0) (hw : Cond.classLink (qMy M).cls idx C0 ∈ qTbl) (h0 : 0 ≤ n) (h1 : n ≤ 100000) (k : qEx M (pc + 3) ls (qR h.1 :: st) (qnew h (qRr c0 n.toNat (fun _ => none)) n.toNat) r hr) : qEx M pc ls (qI n :: st) h r hr := by
  unfold qEx at *
  have k1 : h.1 + 1 ≤ hr.1 := k.1
  have k3 : h.2.1 + n.toNat ≤ hr.2.1 := k.2.1
  refine ⟨by omega, by omega, fun G p l e s m args below meth c H locs cells slots mc ms lsA C hH hS hRl hRs hc hs hL => ?_⟩
  obtain ⟨hx, hb, hml, hrt, hown, hlk, hnm, hts, hK, hbs⟩ := id C
  have hRn : R32 n := qRs_head hRs
  have hnn := r32_nat hRn
  refine W.anew hx hb hown (hts _ hw) (va_AO.use (qRt_ao hq hK)) rfl hd rfl (by rw [show (0 : Int32) = Int32.ofInt 0 from rfl, r32_lt hRn r32_0]; omega) (by rw [hnn]; omega) (by show cells + 1 ≤ mc; omega) (by show slots + _ ≤ ms; rw [hnn]; omega) fun cA kA comp f1 f2 f3 f4 => ?_
  rw [hnn]
  generalize hH1 : H.push ({ cls := cA, slots := Array.replicate n.toNat .null, vm := .none } : Cell) = H1
  have z1 : H1.size = H.size + 1 := by rw [← hH1, Array.size_push]
  have e1 : H1[H.size]? = some (arrV cA n.toNat (fun _ => .null)) := by rw [← hH1, Array.getElem?_push_size, ← arrV_new]
  have o1 : ∀ q : Nat, q < H.size → H1[q]? = H[q]? := fun q hq => by rw [← hH1, Array.getElem?_push, if_neg (Nat.ne_of_lt hq)]
  have hcA : cA = qAC G (10 + c0) := by
    obtain ⟨kB, comp2, q1, q2, q3, q4⟩ := (hK.1.2 t0 _ (qRt_tys hq)).2
    exact Option.some.inj (f1.symm.trans q4)
  have hz := hH.2.2.1
  have ha : qAd G h.1 = H.size := by rw [qAd_of hH.1.1, hz]
  have hH2 := qHR_new (k := n.toNat) (c := qRr c0 n.toNat (fun _ => none)) hH trivial (by show H1[qAd G h.1]? = some (vp_cell _ _); rw [ha, e1, hcA]; rfl) z1 o1
  have k2 := k.2.2 G p l e s m args below meth c H1 locs (cells + 1) (slots + n.toNat) mc ms lsA C hH2 (qS_new hS z1 o1) hRl (qRs_cons trivial (qRs_tail hRs)) (by show cells + 1 + (hr.1 - (h.1 + 1)) ≤ mc; omega) (by show slots + n.toNat + (hr.2.1 - (h.2.1 + n.toNat)) ≤ ms; omega) hL
  rw [List.map_cons, qV_r, ha] at k2
  exact k2
theorem z_aaload {a n b c0 t0 : Nat} {C0 : String} {i : Int} {f : Nat → Option Nat} (hd : decode (qMc M) pc = .ok (.aaload, 1)) (hq : qRt c0 t0 C0) (he : h.2.2 a = qRr c0 n f) (h0 : 0 ≤ i) (h1 : i < n) (hf : f i.toNat = some b) (k : qEx M (pc + 1) ls (qR b :: st) h r hr) : qEx M pc ls (qI i :: qR a :: st) h r hr := by
  unfold qEx at *
  refine ⟨k.1, k.2.1, fun G p l e s m args below meth c H locs cells slots mc ms lsA C hH hS hRl hRs hc hs hL => ?_⟩
  obtain ⟨hx, hb, hml, hrt, hown, hlk, hnm, hts, hK, hbs⟩ := id C
  have hRi : R32 i := qRs_head hRs
  have k2 := k.2.2 G p l e s m args below meth c H locs cells slots mc ms lsA C hH hS hRl (qRs_cons trivial (qRs_tail (qRs_tail hRs))) hc hs hL
  have ha : a ≠ 1 := by
    intro e9
    subst e9
    obtain ⟨n2, f2, e1⟩ := hH.1.2.2.2.2
    rw [he] at e1
    cases e1
  obtain ⟨ha2, ha1⟩ := qHR_gea hH he ha
  have hw := qW_at (G := G) (h := h) ha2 ha1
  rw [he] at hw
  refine va_aldq (D := qD G) hx hb hK.1 hH.2.2.2.2 (a - 2) t0 hw (qRt_tys hq) (r32_in_of hRi h0 h1) hd ?_
  rw [r32_nat hRi, hf]
  exact k2
def qupR (f : Nat → Option Nat) (i : Nat) (v : Nat) : Nat → Option Nat := fun j => if j = i then some v else f j
theorem q_updR (G : qG) (f : Nat → Option Nat) (i v : Nat) : va_up (fun j => (f j).map (qAd G)) i (some (qAd G v)) = fun j => (qupR f i v j).map (qAd G) := by
  funext j
  unfold va_up qupR
  split <;> rfl
theorem z_aastore {a n b c0 t0 : Nat} {C0 : String} {i : Int} {f : Nat → Option Nat} {fs : List qA} (hd : decode (qMc M) pc = .ok (.aastore, 1)) (hq : qRt c0 t0 C0) (he : h.2.2 a = qRr c0 n f) (hb0 : h.2.2 b = qOb c0 fs) (h0 : 0 ≤ i) (h1 : i < n) (k : qEx M (pc + 1) ls st (qset h a (qRr c0 n (qupR f i.toNat b))) r hr) : qEx M pc ls (qR b :: qI i :: qR a :: st) h r hr := by
  unfold qEx at *
  refine ⟨k.1, k.2.1, fun G p l e s m args below meth c H locs cells slots mc ms lsA C hH hS hRl hRs hc hs hL => ?_⟩
  obtain ⟨hx, hb, hml, hrt, hown, hlk, hnm, hts, hK, hbs⟩ := id C
  have hRi : R32 i := qRs_head (qRs_tail hRs)
  have ha : a ≠ 1 := by
    intro e9
    subst e9
    obtain ⟨n2, f2, e1⟩ := hH.1.2.2.2.2
    rw [he] at e1
    cases e1
  obtain ⟨ha2, ha1⟩ := qHR_gea hH he ha
  obtain ⟨q, hcl, hqC⟩ := qRt_cl hq
  obtain ⟨hb2, hb1⟩ := qHR_ge hH hb0 hcl
  have hw := qW_at (G := G) (h := h) ha2 ha1
  have hv := qW_at (G := G) (h := h) hb2 hb1
  rw [he] at hw
  rw [hb0] at hv
  have htt := qRt_tys (G := G) hq
  rw [← hqC] at htt
  refine qs_astq (D := qD G) (A := qFree G) hx hb hK.1 hH.2.2.2.2 (qW_D G h) hS (a - 2) t0 (b - 2) c0 hw htt hv hcl (r32_in_of hRi h0 h1) hd (fun H1 locs1 hP1 hS1 hz => ?_)
  rw [r32_nat hRi, q_updR] at hP1
  have hH1 := qHR_put (c := qRr c0 n (qupR f i.toNat b)) hH ha2 ha1 trivial hS hS1 hbs hP1 hz
  exact k.2.2 G p l e s m args below meth c H1 locs1 cells slots mc ms lsA C hH1 hS1 hRl (qRs_tail (qRs_tail (qRs_tail hRs))) hc hs hL
end NewRules
