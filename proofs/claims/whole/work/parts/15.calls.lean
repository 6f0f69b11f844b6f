/-! ===== THE OWN MACHINE'S ROWS: calls ===== -/
def qFl (args : List qA) : List qA := args.flatMap (fun v => if qCt v = 2 then [v, none] else [v])
def qEn (n : Nat) (args : List qA) : List qA := qFl args ++ List.replicate (n - (qFl args).length) none
theorem qFl_cons (v : qA) (l : List qA) : qFl (v :: l) = (if qCt v = 2 then [v, none] else [v]) ++ qFl l := by simp [qFl]
theorem lg_sl_cons (v : Value) (l : List Value) : lg_sl (v :: l) = (if v.category = 2 then [.val v, .second] else [.val v]) ++ lg_sl l := by simp [lg_sl]
theorem qFl_len (G : qG) (args : List qA) : (lg_sl (args.map (qV G))).length = (qFl args).length := by
  induction args with
  | nil => rfl
  | cons v l ih =>
    rw [List.map_cons, lg_sl_cons, qFl_cons, qCt_ok]
    split <;> simp [ih]
theorem qFl_at (G : qG) (args : List qA) : ∀ (i : Nat) (v : Int ⊕ Int ⊕ Option Nat), (qFl args)[i]? = some (some v) → (lg_sl (args.map (qV G)))[i]? = some (.val (qV G (some v))) := by
  induction args with
  | nil => intro i v h; simp [qFl] at h
  | cons w l ih =>
    intro i v h
    rw [List.map_cons, lg_sl_cons, qCt_ok]
    rw [qFl_cons] at h
    by_cases hc : qCt w = 2
    · rw [if_pos hc] at h ⊢
      match i, h with
      | 0, h => simp at h; subst h; rfl
      | 1, h => simp at h
      | i + 2, h => exact ih i v h
    · rw [if_neg hc] at h ⊢
      match i, h with
      | 0, h => simp at h; subst h; rfl
      | i + 1, h => exact ih i v h
theorem qLR_entry (G : qG) {n : Nat} {args : List qA} (hn : (qFl args).length ≤ n) : qLR G n (qEn n args) ((lg_sl (args.map (qV G)) ++ List.replicate (n - (lg_sl (args.map (qV G))).length) Slot.unset).toArray) := by
  have hl := qFl_len G args
  have hw := lv_entry (args.map (qV G)) (n := n) (by rw [hl]; exact hn)
  refine ⟨hw.1, hw.2.1, by simp only [qEn, List.length_append, List.length_replicate]; omega, fun i v hv => ?_⟩
  rw [List.getElem?_toArray]
  unfold qEn at hv
  by_cases hi : i < (qFl args).length
  · rw [List.getElem?_append_left hi] at hv
    rw [List.getElem?_append_left (by rw [hl]; exact hi)]
    exact qFl_at G args i v hv
  · rw [List.getElem?_append_right (by omega), List.getElem?_replicate] at hv
    split at hv
    · cases hv
    · cases hv
theorem qRs_entry {n : Nat} {args : List qA} (h : qRs args) : qRs (qEn n args) := by
  intro v hv
  rcases List.mem_append.mp hv with hv | hv
  · obtain ⟨w, hw, hv⟩ := List.mem_flatMap.mp hv
    split at hv
    · rcases List.mem_cons.mp hv with e | e
      · rw [e]; exact h w hw
      · rw [List.mem_singleton.mp e]; trivial
    · rw [List.mem_singleton.mp hv]; exact h w hw
  · rw [(List.mem_replicate.mp hv).2]; trivial
/-- what is known of a method that is called, of n parameters -/
def qMk (M : qM) (n : Nat) : Prop := Cond.code (qMy M) (qMc M) (qMl M) (qMr M) ∈ qTbl ∧ plainFor (qMy M) = true ∧ ((qMy M).cls ≠ "java/lang/invoke/MethodHandle" ∧ (qMy M).cls ≠ "java/lang/invoke/VarHandle" ∧ (parseMethodDescriptor (qMy M).desc).map (fun d => d.parameters.length) = some n) ∧ Cond.initialized (qMy M).cls ∈ qTbl
/-- what is known of a class whose methods are called -/
def qCk (C : String) : Prop := C ≠ "java/lang/invoke/MethodHandle" ∧ C ≠ "java/lang/invoke/VarHandle" ∧ Cond.initialized C ∈ qTbl
theorem qMk_of {M : qM} {n : Nat} (hc : qCk (qMy M).cls) (h1 : Cond.code (qMy M) (qMc M) (qMl M) (qMr M) ∈ qTbl) (h2 : plainFor (qMy M) = true) (h3 : (parseMethodDescriptor (qMy M).desc).map (fun d => d.parameters.length) = some n) : qMk M n := ⟨h1, h2, ⟨hc.1, hc.2.1, h3⟩, hc.2.2⟩
def qPc (G : qG) (args : List qA) (h : qH) : Array Value → State → Prop := fun a U => a = (args.map (qV G)).toArray ∧ qHR G h U.heap ∧ qK G U ∧ qRs args ∧ qB G ≤ U.heap.size
theorem qPc_blind (G : qG) (args : List qA) (h : qH) : FrameBlind (qPc G args h) := fun a U g mk q => ⟨q.1, q.2.1, qK_same (U := U) (V := U.calling g mk a) rfl q.2.2.1, q.2.2.2⟩
theorem q_met {M : qM} {n : Nat} {args : List qA} {h h1 : qH} {v : Option qA} (hM : qMk M n) (hlen : (qFl args).length ≤ qMl M) (k : qEx M 0 (qEn (qMl M) args) [] h v h1) (G : qG) (l : Launch) :
    Met l (qMy M) (Cond.code (qMy M) (qMc M) (qMl M) (qMr M) :: qTbl) { frames := qMf M, cells := h1.1 - h.1, slots := h1.2.1 - h.2.1, locals := qMw M } (qPc G args h) (qQ G v h1) (h1.1 - h.1) (h1.2.1 - h.2.1) (qFree G) := by
  refine va_MetF (cc := qMc M) (maxL := qMl M) (ret := qMr M) hM.2.1 rfl ?_
  intro p e s m as below meth c s₁ B hml hv
  obtain ⟨rfl, hH, hK, hRs, hbs⟩ := hv
  have hts := atoms_spec (ws := Cond.code (qMy M) (qMc M) (qMl M) (qMr M) :: qTbl) B.pre
  rw [lg_entry_eq]
  exact k.2.2 G p l e s m _ below meth c s.heap [] 0 0 _ _ _ ⟨B.exec, B.bytes, hml, B.returns, findClass_of_methodNamed B.named, B.notSynchronized, (name_of_methodNamed B.named B.method).1, fun w hw => hts w (List.mem_cons_of_mem _ hw), hK, hbs⟩ hH va_S.rf (qRs_entry hRs) (fun v h => by cases h) (by omega) (by omega) (qLR_entry G hlen)
theorem qTbl_in {ws : List Cond} (h : ∀ w ∈ ws, w ∈ qTbl) : GoodIn qTbl ws := fun w hw => ⟨h w hw, good_of_word (qTbl_good w (h w hw))⟩
section Cont
variable {p : Program} {l : Launch} {e : Env} {R : Room} {s : State} {m : MethodId} {args : Array Value} {below : List Frame} {meth : Method} {c : Code} {H : Heap} {locs : List Loc} {cells slots : Nat} {Q : State → Prop}
theorem q_cont {G : qG} {pc mc ms : Nat} {lsA : Array Slot} {st0 rest : List Value} {a : Array Value} {v : Option qA} {h1 : qH} (hr : va_Run p l e R s m args below meth c H locs cells slots mc ms (F0 m pc lsA st0) rest (qQ G v h1 a) (qFree G)) (hS : va_S (qFree G) s.heap H locs)
    (kk : ∀ (H1 : Heap) (locs1 : List Loc), qHR G h1 H1 → (∀ w, v = some w → qRv w) → va_S (qFree G) s.heap H1 locs1 → W p l e R s m args below meth c H1 locs1 (cells + mc) (slots + ms) Q (F0 m (pc + 3) lsA ((v.map (qV G)).toList ++ rest))) : W p l e R s m args below meth c H locs cells slots Q (F0 m pc lsA st0) := by
  intro T hT X
  obtain ⟨v0, st₀, t, T', L, h0, X', hL, e1, e2, ⟨hv, hvr, hH, hz, hk⟩, st⟩ := hr T hT X
  cases hv
  rw [h0] at hz hk
  obtain ⟨t2, a1, b1⟩ := kk T'.heap (locs ++ L) (by rw [e1]; exact hH) hvr
    ⟨Nat.le_trans hS.1 (by rw [e1]; exact hz), fun q h1 h2 => by rw [e1, hk q (Nat.lt_of_lt_of_le h1 hS.1) h2]; exact hS.2.1 q h1 h2, fun q hq => by
      rcases List.mem_append.mp hq with h | h
      · exact hS.2.2 q h
      · exact hL q h⟩ T' rfl X'
  exact ⟨t2, st t2 a1, b1⟩
end Cont
theorem qRs_app {a b : List qA} (h : qRs (a ++ b)) : qRs a ∧ qRs b := ⟨fun v hv => h v (List.mem_append_left _ hv), fun v hv => h v (List.mem_append_right _ hv)⟩
/-- entry idx of the class own names the static method y -/
def qLs (own : String) (idx : Nat) (y : MethodName) : Prop := Cond.static y ∈ qTbl ∧ (Cond.methodLink own idx y ∈ qTbl ∨ ∃ host, Cond.methodLinkNest own idx y host ∈ lw_tbl)
/-- .. a method of an object -/
def qLv (own : String) (idx : Nat) (y : MethodName) : Prop := Cond.instanceMethod y ∈ qTbl ∧ Cond.selects y.cls y y ∈ qTbl ∧ (Cond.methodLink own idx y ∈ qTbl ∨ ∃ host, Cond.methodLinkNest own idx y host ∈ lw_tbl)
/-- .. a constructor -/
def qLi (own : String) (idx : Nat) (y : MethodName) : Prop := y.name = "<init>" ∧ Cond.instanceMethod y ∈ qTbl ∧ (Cond.methodLink own idx y ∈ qTbl ∨ ∃ host, Cond.methodLinkNest own idx y host ∈ lw_tbl)
section CallRules
variable {M : qM} {pc : Nat} {ls st : List qA} {h hr : qH} {r : Option qA}
theorem z_callS {M1 : qM} {n idx : Nat} {sa args : List qA} {v : Option qA} {h1 : qH} (hd : decode (qMc M) pc = .ok (.invokestatic idx, 3)) (hl : qLs (qMy M).cls idx (qMy M1)) (hM : qMk M1 n) (args : List qA) (hsa : sa = args.reverse ++ st) (hn : args.length = n) (hlen : (qFl args).length ≤ qMl M1) (hf : qMf M1 + 1 ≤ qMf M) (hw : 8 + (qMl M1 + 11) + qMw M1 ≤ qMw M) (hcs : qCs st ≤ 8)
    (hk : qEx M1 0 (qEn (qMl M1) args) [] h v h1) (k : qEx M (pc + 3) ls (v.toList ++ st) h1 r hr) : qEx M pc ls sa h r hr := by
  subst hsa
  have hmet := fun G l => q_met hM hlen hk G l
  unfold qEx at *
  have a1 := hk.1
  have a2 := hk.2.1
  have b1 := k.1
  have b2 := k.2.1
  refine ⟨by omega, by omega, fun G p l e s m as below meth c H locs cells slots mc ms lsA C hH hS hRl hRs hc hs hL => ?_⟩
  obtain ⟨hx, hb, hml, hrt, hown, hlk, hnm, hts, hK, hbs⟩ := id C
  obtain ⟨hra, hrst⟩ := qRs_app hRs
  have hra : qRs args := fun v hv => hra v (List.mem_reverse.mpr hv)
  have hp : PreS s H (qPc G args h) (args.map (qV G)) := ⟨qPc_blind G args h, fun U hU hW => ⟨rfl, by rw [hU]; exact hH, qK_moved hW hK, hra, by rw [hU]; exact Nat.le_trans hbs hS.1⟩⟩
  rw [List.map_append, List.map_reverse]
  obtain ⟨hst, hlink⟩ := hl
  have go : va_Run p l e { frames := qMf M, cells := mc, slots := ms, locals := qMw M } s m as below meth c H locs cells slots (h1.1 - h.1) (h1.2.1 - h.2.1) (F0 m pc lsA ((args.map (qV G)).reverse ++ st.map (qV G))) (st.map (qV G)) (qQ G v h1 (args.map (qV G)).toArray) (qFree G) := by
    rcases hlink with hlink | ⟨host, hlink⟩
    · exact va_runS ⟨hx, hb, hml, hown, hts⟩ (hmet G l) (va_cwS n hts (qTbl_in (fun w h => by
        unfold va_wsS at h
        rcases List.mem_append.mp h with h | h
        · rcases List.mem_cons.mp h with e | h
          · rw [e]; exact hlink
          · rcases List.mem_cons.mp h with e | h
            · rw [e]; exact hst
            · rw [List.mem_singleton.mp h]; exact hM.2.2.2
        · rcases List.mem_cons.mp h with e | h
          · rw [e]; exact hM.1
          · exact h)) rfl rfl rfl hM.2.2.1 ⟨hf, hw⟩) hp rfl (by rw [List.length_map]; exact hn) hL.1 rfl (by rw [qCs_ok]; show 2 * 0 + _ ≤ 8; omega) hd ⟨by show _ ≤ mc; omega, by show _ ≤ ms; omega⟩
    · exact va_runSN ⟨hx, hb, hml, hown, hts⟩ (hmet G l) ⟨va_cnB n hts (qTbl_in (fun w h => by
        rcases List.mem_cons.mp h with e | h
        · rw [e]; exact hM.1
        · exact h)) rfl rfl rfl (hK.2.1 _ hlink rfl) (hts _ hM.2.2.2) hM.2.2.1 ⟨hf, hw⟩, hts _ hst, trivial⟩ hp rfl (by rw [List.length_map]; exact hn) hL.1 rfl (by rw [qCs_ok]; show 2 * 0 + _ ≤ 8; omega) hd ⟨by show _ ≤ mc; omega, by show _ ≤ ms; omega⟩
  refine q_cont go hS (fun H1 locs1 hH1 hvr hS1 => ?_)
  have hRs1 : qRs (v.toList ++ st) := by
    intro w hw9
    rcases List.mem_append.mp hw9 with h9 | h9
    · exact hvr w (by cases v with | none => cases h9 | some z => rw [List.mem_singleton.mp h9])
    · exact hrst w h9
  have k2 := k.2.2 G p l e s m as below meth c H1 locs1 (cells + (h1.1 - h.1)) (slots + (h1.2.1 - h.2.1)) mc ms lsA C hH1 hS1 hRl hRs1 (by omega) (by omega) hL
  rw [List.map_append] at k2
  cases v with
  | none => exact k2
  | some z => exact k2
theorem z_callV {M1 : qM} {n idx b ci : Nat} {sa : List qA} {fs : List qA} {v : Option qA} {h1 : qH} (hd : decode (qMc M) pc = .ok (.invokevirtual idx, 3)) (hl : qLv (qMy M).cls idx (qMy M1)) (hM : qMk M1 n) (args : List qA) (hsa : sa = args.reverse ++ qR b :: st) (hn : args.length = n) (he : h.2.2 b = qOb ci fs) (hci : ∃ T N, vwCl[ci]? = some ((qMy M1).cls, T, N)) (hlen : (qFl (qR b :: args)).length ≤ qMl M1) (hf : qMf M1 + 1 ≤ qMf M) (hw : 8 + (qMl M1 + 11) + qMw M1 ≤ qMw M) (hcs : qCs st ≤ 8)
    (hk : qEx M1 0 (qEn (qMl M1) (qR b :: args)) [] h v h1) (k : qEx M (pc + 3) ls (v.toList ++ st) h1 r hr) : qEx M pc ls sa h r hr := by
  subst hsa
  have hmet := fun G l => q_met hM hlen hk G l
  unfold qEx at *
  have a1 := hk.1
  have a2 := hk.2.1
  have b1 := k.1
  have b2 := k.2.1
  refine ⟨by omega, by omega, fun G p l e s m as below meth c H locs cells slots mc ms lsA C hH hS hRl hRs hc hs hL => ?_⟩
  obtain ⟨hx, hb, hml, hrt, hown, hlk, hnm, hts, hK, hbs⟩ := id C
  obtain ⟨hra, hrst⟩ := qRs_app hRs
  have hra : qRs (qR b :: args) := qRs_cons trivial (fun v hv => hra v (List.mem_reverse.mpr hv))
  obtain ⟨T, N, hcl⟩ := hci
  obtain ⟨hb2, hb1⟩ := qHR_ge hH he hcl
  have hwb := qW_at (G := G) (h := h) hb2 hb1
  rw [he] at hwb
  have hp : PreV s H (qMy M1).cls (qAd G b) (qPc G (qR b :: args) h) (args.map (qV G)) := ⟨qPc_blind G _ h, va_recv hK.1 hH.2.2.2.2 hcl hwb, fun U hU hW => ⟨rfl, by rw [hU]; exact hH, qK_moved hW hK, hra, by rw [hU]; exact Nat.le_trans hbs hS.1⟩⟩
  rw [List.map_append, List.map_reverse, List.map_cons, qV_r]
  obtain ⟨hin, hse, hlink⟩ := hl
  have go : va_Run p l e { frames := qMf M, cells := mc, slots := ms, locals := qMw M } s m as below meth c H locs cells slots (h1.1 - h.1) (h1.2.1 - h.2.1) (F0 m pc lsA ((args.map (qV G)).reverse ++ .ref (qAd G b) :: st.map (qV G))) (st.map (qV G)) (qQ G v h1 (Value.ref (qAd G b) :: args.map (qV G)).toArray) (qFree G) := by
    rcases hlink with hlink | ⟨host, hlink⟩
    · exact va_runV ⟨hx, hb, hml, hown, hts⟩ (hmet G l) (cwV n hts (qTbl_in (fun w h => by
        unfold wsV at h
        rcases List.mem_append.mp h with h | h
        · rcases List.mem_cons.mp h with e | h
          · rw [e]; exact hlink
          · rcases List.mem_cons.mp h with e | h
            · rw [e]; exact hin
            · rcases List.mem_cons.mp h with e | h
              · rw [e]; exact hse
              · rw [List.mem_singleton.mp h]; exact hM.2.2.2
        · rcases List.mem_cons.mp h with e | h
          · rw [e]; exact hM.1
          · exact h)) rfl rfl rfl ⟨rfl, hM.2.2.1⟩ ⟨hf, hw⟩) hp rfl (by rw [List.length_map]; exact hn) hL.1 rfl (by rw [qCs_ok]; show 2 * 0 + _ ≤ 8; omega) hd ⟨by show _ ≤ mc; omega, by show _ ≤ ms; omega⟩
    · exact va_runVN ⟨hx, hb, hml, hown, hts⟩ (hmet G l) ⟨va_cnB n hts (qTbl_in (fun w h => by
        rcases List.mem_cons.mp h with e | h
        · rw [e]; exact hM.1
        · exact h)) rfl rfl rfl (hK.2.1 _ hlink rfl) (hts _ hM.2.2.2) hM.2.2.1 ⟨hf, hw⟩, hts _ hin, hts _ hse⟩ hp rfl (by rw [List.length_map]; exact hn) hL.1 rfl (by rw [qCs_ok]; show 2 * 0 + _ ≤ 8; omega) hd ⟨by show _ ≤ mc; omega, by show _ ≤ ms; omega⟩
  refine q_cont go hS (fun H1 locs1 hH1 hvr hS1 => ?_)
  have hRs1 : qRs (v.toList ++ st) := by
    intro w hw9
    rcases List.mem_append.mp hw9 with h9 | h9
    · exact hvr w (by cases v with | none => cases h9 | some z => rw [List.mem_singleton.mp h9])
    · exact hrst w (List.mem_cons_of_mem _ h9)
  have k2 := k.2.2 G p l e s m as below meth c H1 locs1 (cells + (h1.1 - h.1)) (slots + (h1.2.1 - h.2.1)) mc ms lsA C hH1 hS1 hRl hRs1 (by omega) (by omega) hL
  rw [List.map_append] at k2
  cases v with
  | none => exact k2
  | some z => exact k2
theorem z_callI {M1 : qM} {n idx b : Nat} {sa : List qA} {h1 : qH} (hd : decode (qMc M) pc = .ok (.invokespecial idx, 3)) (hl : qLi (qMy M).cls idx (qMy M1)) (hM : qMk M1 n) (hret : qMr M1 = none) (args : List qA) (hsa : sa = args.reverse ++ qR b :: st) (hn : args.length = n) (hlen : (qFl (qR b :: args)).length ≤ qMl M1) (hf : qMf M1 + 1 ≤ qMf M) (hw : 8 + (qMl M1 + 11) + qMw M1 ≤ qMw M) (hcs : qCs st ≤ 8)
    (hk : qEx M1 0 (qEn (qMl M1) (qR b :: args)) [] h none h1) (k : qEx M (pc + 3) ls st h1 r hr) : qEx M pc ls sa h r hr := by
  subst hsa
  obtain ⟨y1, c1, l1, r1, f1, w1⟩ := M1
  have hret : r1 = none := hret
  subst hret
  have hmet := fun G l => q_met hM hlen hk G l
  unfold qEx at *
  have a1 := hk.1
  have a2 := hk.2.1
  have b1 := k.1
  have b2 := k.2.1
  refine ⟨by omega, by omega, fun G p l e s m as below meth c H locs cells slots mc ms lsA C hH hS hRl hRs hc hs hL => ?_⟩
  obtain ⟨hx, hb, hml, hrt, hown, hlk, hnm, hts, hK, hbs⟩ := id C
  obtain ⟨hra, hrst⟩ := qRs_app hRs
  have hra : qRs (qR b :: args) := qRs_cons trivial (fun v hv => hra v (List.mem_reverse.mpr hv))
  have hp : PreS s H (qPc G (qR b :: args) h) (.ref (qAd G b) :: args.map (qV G)) := ⟨qPc_blind G _ h, fun U hU hW => ⟨rfl, by rw [hU]; exact hH, qK_moved hW hK, hra, by rw [hU]; exact Nat.le_trans hbs hS.1⟩⟩
  rw [List.map_append, List.map_reverse, List.map_cons, qV_r]
  obtain ⟨hy1, hin, hlink⟩ := hl
  have go : va_Run p l e { frames := qMf M, cells := mc, slots := ms, locals := qMw M } s m as below meth c H locs cells slots (h1.1 - h.1) (h1.2.1 - h.2.1) (F0 m pc lsA ((args.map (qV G)).reverse ++ .ref (qAd G b) :: st.map (qV G))) (st.map (qV G)) (qQ G none h1 (Value.ref (qAd G b) :: args.map (qV G)).toArray) (qFree G) := by
    rcases hlink with hlink | ⟨host, hlink⟩
    · exact va_runI ⟨hx, hb, hml, hown, hts⟩ (hmet G l) (cwI n hts (qTbl_in (fun w h => by
        rcases List.mem_cons.mp h with e | h
        · rw [e]; exact hM.1
        · exact h)) rfl rfl rfl (hts _ hM.2.2.2) (hts _ hlink) (hts _ hin) hy1 hM.2.2.1 ⟨hf, hw⟩) hp rfl (by rw [List.length_map]; exact hn) hL.1 rfl (by rw [qCs_ok]; show 2 * 0 + _ ≤ 8; omega) hd ⟨by show _ ≤ mc; omega, by show _ ≤ ms; omega⟩
    · exact va_runIN ⟨hx, hb, hml, hown, hts⟩ (hmet G l) ⟨va_cnB n hts (qTbl_in (fun w h => by
        rcases List.mem_cons.mp h with e | h
        · rw [e]; exact hM.1
        · exact h)) rfl rfl rfl (hK.2.1 _ hlink rfl) (hts _ hM.2.2.2) hM.2.2.1 ⟨hf, hw⟩, hy1, hts _ hin⟩ hp rfl (by rw [List.length_map]; exact hn) hL.1 rfl (by rw [qCs_ok]; show 2 * 0 + _ ≤ 8; omega) hd ⟨by show _ ≤ mc; omega, by show _ ≤ ms; omega⟩
  refine q_cont go hS (fun H1 locs1 hH1 hvr hS1 => ?_)
  exact k.2.2 G p l e s m as below meth c H1 locs1 (cells + (h1.1 - h.1)) (slots + (h1.2.1 - h.2.1)) mc ms lsA C hH1 hS1 hRl (qRs_tail hrst) (by omega) (by omega) hL
/-- Object's own constructor -/
theorem z_objinit {idx b : Nat} (hd : decode (qMc M) pc = .ok (.invokespecial idx, 3)) (h1 : Cond.methodLink (qMy M).cls idx objectInit ∈ qTbl) (h2 : Cond.instanceMethod objectInit ∈ qTbl) (h3 : Cond.code objectInit ⟨#[0xb1]⟩ 1 none ∈ qTbl) (hf : 1 ≤ qMf M) (hw : qCs st + 12 ≤ qMw M) (k : qEx M (pc + 3) ls st h r hr) : qEx M pc ls (qR b :: st) h r hr := by
  unfold qEx at *
  refine ⟨k.1, k.2.1, fun G p l e s m args below meth c H locs cells slots mc ms lsA C hH hS hRl hRs hc hs hL => ?_⟩
  obtain ⟨hx, hb, hml, hrt, hown, hlk, hnm, hts, hK, hbs⟩ := id C
  exact W.objInit hx hb hown (hts _ h1) (hts _ h2) (hts _ h3) rfl (by rw [hml]; exact hL.1) rfl hd hf (by rw [qCs_ok]; show 2 * 0 + _ + 12 ≤ _; show _ ≤ qMw M; omega) (k.2.2 G p l e s m args below meth c H locs cells slots mc ms lsA C hH hS hRl (qRs_tail hRs) hc hs hL)
end CallRules
