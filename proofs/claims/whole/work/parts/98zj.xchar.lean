/-! ===== CONTRACTS: the text constant: ldc, and the library's own charAt, isLatin1, checkIndex: by wip/gen/c98zj.py ===== -/
theorem d_J0_charAt_5068e_0 : decode cJ0_charAt_5068e 0 = .ok (.aload_n 0, 1) := by decide +kernel
theorem d_J0_charAt_5068e_1 : decode cJ0_charAt_5068e 1 = .ok (.invokevirtual 492, 3) := by decide +kernel
theorem d_J0_charAt_5068e_4 : decode cJ0_charAt_5068e 4 = .ok (.ifCond .eq 12, 3) := by decide +kernel
theorem d_J0_charAt_5068e_7 : decode cJ0_charAt_5068e 7 = .ok (.aload_n 0, 1) := by decide +kernel
theorem d_J0_charAt_5068e_8 : decode cJ0_charAt_5068e 8 = .ok (.getfield 9, 3) := by decide +kernel
theorem d_J0_charAt_5068e_11 : decode cJ0_charAt_5068e 11 = .ok (.iload_n 1, 1) := by decide +kernel
theorem d_J0_charAt_5068e_12 : decode cJ0_charAt_5068e 12 = .ok (.invokestatic 495, 3) := by decide +kernel
theorem d_J0_charAt_5068e_15 : decode cJ0_charAt_5068e 15 = .ok (.ireturn, 1) := by decide +kernel
theorem d_J0_charAt_5068e_16 : decode cJ0_charAt_5068e 16 = .ok (.aload_n 0, 1) := by decide +kernel
theorem d_J0_charAt_5068e_17 : decode cJ0_charAt_5068e 17 = .ok (.getfield 9, 3) := by decide +kernel
theorem d_J0_charAt_5068e_20 : decode cJ0_charAt_5068e 20 = .ok (.iload_n 1, 1) := by decide +kernel
theorem d_J0_charAt_5068e_21 : decode cJ0_charAt_5068e 21 = .ok (.invokestatic 498, 3) := by decide +kernel
theorem d_J0_charAt_5068e_24 : decode cJ0_charAt_5068e 24 = .ok (.ireturn, 1) := by decide +kernel
theorem d_J0_isLatin1_aae02_0 : decode cJ0_isLatin1_aae02 0 = .ok (.getstatic 38, 3) := by decide +kernel
theorem d_J0_isLatin1_aae02_3 : decode cJ0_isLatin1_aae02 3 = .ok (.ifCond .eq 14, 3) := by decide +kernel
theorem d_J0_isLatin1_aae02_6 : decode cJ0_isLatin1_aae02 6 = .ok (.aload_n 0, 1) := by decide +kernel
theorem d_J0_isLatin1_aae02_7 : decode cJ0_isLatin1_aae02 7 = .ok (.getfield 15, 3) := by decide +kernel
theorem d_J0_isLatin1_aae02_10 : decode cJ0_isLatin1_aae02 10 = .ok (.ifCond .ne 7, 3) := by decide +kernel
theorem d_J0_isLatin1_aae02_13 : decode cJ0_isLatin1_aae02 13 = .ok (.iconst 1, 1) := by decide +kernel
theorem d_J0_isLatin1_aae02_14 : decode cJ0_isLatin1_aae02 14 = .ok (.goto 4, 3) := by decide +kernel
theorem d_J0_isLatin1_aae02_17 : decode cJ0_isLatin1_aae02 17 = .ok (.iconst 0, 1) := by decide +kernel
theorem d_J0_isLatin1_aae02_18 : decode cJ0_isLatin1_aae02 18 = .ok (.ireturn, 1) := by decide +kernel
theorem d_J0_checkIndex_df160_0 : decode cJ0_checkIndex_df160 0 = .ok (.iload_n 0, 1) := by decide +kernel
theorem d_J0_checkIndex_df160_1 : decode cJ0_checkIndex_df160 1 = .ok (.iload_n 1, 1) := by decide +kernel
theorem d_J0_checkIndex_df160_2 : decode cJ0_checkIndex_df160 2 = .ok (.getstatic 1053, 3) := by decide +kernel
theorem d_J0_checkIndex_df160_5 : decode cJ0_checkIndex_df160 5 = .ok (.invokestatic 1059, 3) := by decide +kernel
theorem d_J0_checkIndex_df160_8 : decode cJ0_checkIndex_df160 8 = .ok (.pop, 1) := by decide +kernel
theorem d_J0_checkIndex_df160_9 : decode cJ0_checkIndex_df160 9 = .ok (.return_, 1) := by decide +kernel
theorem d_J1_charAt_3b067_0 : decode cJ1_charAt_3b067 0 = .ok (.iload_n 1, 1) := by decide +kernel
theorem d_J1_charAt_3b067_1 : decode cJ1_charAt_3b067 1 = .ok (.aload_n 0, 1) := by decide +kernel
theorem d_J1_charAt_3b067_2 : decode cJ1_charAt_3b067 2 = .ok (.arraylength, 1) := by decide +kernel
theorem d_J1_charAt_3b067_3 : decode cJ1_charAt_3b067 3 = .ok (.invokestatic 9, 3) := by decide +kernel
theorem d_J1_charAt_3b067_6 : decode cJ1_charAt_3b067 6 = .ok (.aload_n 0, 1) := by decide +kernel
theorem d_J1_charAt_3b067_7 : decode cJ1_charAt_3b067 7 = .ok (.iload_n 1, 1) := by decide +kernel
theorem d_J1_charAt_3b067_8 : decode cJ1_charAt_3b067 8 = .ok (.baload, 1) := by decide +kernel
theorem d_J1_charAt_3b067_9 : decode cJ1_charAt_3b067 9 = .ok (.sipush 255, 3) := by decide +kernel
theorem d_J1_charAt_3b067_12 : decode cJ1_charAt_3b067 12 = .ok (.iand, 1) := by decide +kernel
theorem d_J1_charAt_3b067_13 : decode cJ1_charAt_3b067 13 = .ok (.i2c, 1) := by decide +kernel
theorem d_J1_charAt_3b067_14 : decode cJ1_charAt_3b067 14 = .ok (.ireturn, 1) := by decide +kernel
theorem d_J3_checkIndex_8e157_0 : decode cJ3_checkIndex_8e157 0 = .ok (.iload_n 0, 1) := by decide +kernel
theorem d_J3_checkIndex_8e157_1 : decode cJ3_checkIndex_8e157 1 = .ok (.ifCond .lt 8, 3) := by decide +kernel
theorem d_J3_checkIndex_8e157_4 : decode cJ3_checkIndex_8e157 4 = .ok (.iload_n 0, 1) := by decide +kernel
theorem d_J3_checkIndex_8e157_5 : decode cJ3_checkIndex_8e157 5 = .ok (.iload_n 1, 1) := by decide +kernel
theorem d_J3_checkIndex_8e157_6 : decode cJ3_checkIndex_8e157 6 = .ok (.if_icmp .lt 10, 3) := by decide +kernel
theorem d_J3_checkIndex_8e157_9 : decode cJ3_checkIndex_8e157 9 = .ok (.aload_n 2, 1) := by decide +kernel
theorem d_J3_checkIndex_8e157_10 : decode cJ3_checkIndex_8e157 10 = .ok (.iload_n 0, 1) := by decide +kernel
theorem d_J3_checkIndex_8e157_11 : decode cJ3_checkIndex_8e157 11 = .ok (.iload_n 1, 1) := by decide +kernel
theorem d_J3_checkIndex_8e157_16 : decode cJ3_checkIndex_8e157 16 = .ok (.iload_n 0, 1) := by decide +kernel
theorem d_J3_checkIndex_8e157_17 : decode cJ3_checkIndex_8e157 17 = .ok (.ireturn, 1) := by decide +kernel
theorem tx_ca : Cond.methodLink RX4 105 yJ0_charAt_5068e ∈ qTbl := qT 684 (by decide +kernel) rfl
theorem tx_ci : Cond.instanceMethod yJ0_charAt_5068e ∈ qTbl := qT 685 (by decide +kernel) rfl
theorem tx_cs : Cond.selects RJ0 yJ0_charAt_5068e yJ0_charAt_5068e ∈ qTbl := qT 686 (by decide +kernel) rfl
theorem tx_cc : Cond.code yJ0_charAt_5068e cJ0_charAt_5068e 2 (some .char) ∈ qTbl := qT 687 (by decide +kernel) rfl
theorem tx_la : Cond.methodLink RJ0 492 yJ0_isLatin1_aae02 ∈ qTbl := qT 688 (by decide +kernel) rfl
theorem tx_li : Cond.instanceMethod yJ0_isLatin1_aae02 ∈ qTbl := qT 689 (by decide +kernel) rfl
theorem tx_ls : Cond.selects RJ0 yJ0_isLatin1_aae02 yJ0_isLatin1_aae02 ∈ qTbl := qT 690 (by decide +kernel) rfl
theorem tx_lc : Cond.code yJ0_isLatin1_aae02 cJ0_isLatin1_aae02 1 (some .boolean) ∈ qTbl := qT 691 (by decide +kernel) rfl
theorem tx_f38 : Cond.fieldLink RJ0 38 "java/lang/String" "COMPACT_STRINGS" "Z" ∈ qTbl := qT 692 (by decide +kernel) rfl
theorem tx_1a : Cond.methodLink RJ0 495 yJ1_charAt_3b067 ∈ qTbl := qT 694 (by decide +kernel) rfl
theorem tx_1s : Cond.static yJ1_charAt_3b067 ∈ qTbl := qT 695 (by decide +kernel) rfl
theorem tx_1c : Cond.code yJ1_charAt_3b067 cJ1_charAt_3b067 2 (some .char) ∈ qTbl := qT 696 (by decide +kernel) rfl
theorem tx_xa : Cond.methodLink RJ1 9 yJ0_checkIndex_df160 ∈ qTbl := qT 697 (by decide +kernel) rfl
theorem tx_xs : Cond.static yJ0_checkIndex_df160 ∈ qTbl := qT 698 (by decide +kernel) rfl
theorem tx_xc : Cond.code yJ0_checkIndex_df160 cJ0_checkIndex_df160 2 none ∈ qTbl := qT 699 (by decide +kernel) rfl
theorem tx_f1053 : Cond.fieldLink RJ0 1053 "jdk/internal/util/Preconditions" "SIOOBE_FORMATTER" "Ljava/util/function/BiFunction;" ∈ qTbl := qT 700 (by decide +kernel) rfl
theorem tx_pa : Cond.methodLink RJ0 1059 yJ3_checkIndex_8e157 ∈ qTbl := qT 702 (by decide +kernel) rfl
theorem tx_ps : Cond.static yJ3_checkIndex_8e157 ∈ qTbl := qT 703 (by decide +kernel) rfl
theorem tx_pc : Cond.code yJ3_checkIndex_8e157 cJ3_checkIndex_8e157 3 (some .int) ∈ qTbl := qT 704 (by decide +kernel) rfl
theorem tx_f15 : Cond.fieldLink RJ0 15 "java/lang/String" "coder" "B" ∈ qTbl := qT 1845 (by decide +kernel) rfl
theorem tx_f9 : Cond.fieldLink RJ0 9 "java/lang/String" "value" "[B" ∈ qTbl := qT 1846 (by decide +kernel) rfl
theorem tx_i0 : Cond.initialized RJ0 ∈ qTbl := qT 17 (by decide +kernel) rfl
theorem tx_i1 : Cond.initialized RJ1 ∈ qTbl := qT 18 (by decide +kernel) rfl
theorem tx_i3 : Cond.initialized RJ3 ∈ qTbl := qT 19 (by decide +kernel) rfl
/-- the sign at k, as a number -/
def chI (k : Nat) : Int := (qTb.getD k 0).toInt
theorem ch_all : ∀ k : Fin 91, ((qTb.getD k 0 &&& 255).toUInt32 % 65536).toInt32 = qTb.getD k 0 ∧ narrow .char (.int (qTb.getD k 0)) = .int (qTb.getD k 0) := by decide +kernel
theorem ch_of (k : Nat) : Int32.ofInt (chI k) = qTb.getD k 0 := by unfold chI; rw [Int32.ofInt_toInt]
theorem ch_nw {k : Nat} (hk : k < 91) : narrow .char (.int (Int32.ofInt (chI k))) = .int (Int32.ofInt (chI k)) := by rw [ch_of]; exact (ch_all ⟨k, hk⟩).2
def qPv (G : qG) (As : List Value) (h : qH) (X : State → Prop) : Array Value → State → Prop := fun a U => a = As.toArray ∧ qHR G h U.heap ∧ qK G U ∧ qB G ≤ U.heap.size ∧ X U
def qXb (X : State → Prop) : Prop := FrameBlind (fun _ U => X U)
theorem qPv_blind (G : qG) (As : List Value) (h : qH) {X : State → Prop} (hX : qXb X) : FrameBlind (qPv G As h X) := fun a U g mk q => ⟨q.1, q.2.1, qK_same (U := U) (V := U.calling g mk a) rfl q.2.2.1, q.2.2.2.1, hX a U g mk q.2.2.2.2⟩
theorem qXb_t : qXb (fun _ => True) := fun _ _ _ _ q => q
/-- a contract of a library's method over the own machine's heap, which it leaves as it is -/
def qMet (l : Launch) (G : qG) (y : MethodName) (cc : ByteArray) (mL : Nat) (ret : Option FieldType) (f w : Nat) (As : List Value) (h : qH) (X : State → Prop) (v : Option qA) : Prop := Met l y (Cond.code y cc mL ret :: qTbl) { frames := f, cells := 0, slots := 0, locals := w } (qPv G As h X) (qQ G v h) 0 0 (qFree G)
section CharCalls
variable {p : Program} {l : Launch} {e : Env} {R : Room} {s : State} {m : MethodId} {args : Array Value} {below : List Frame} {meth : Method} {c : Code} {H : Heap} {locs : List Loc} {cells slots : Nat} {Q : State → Prop}
theorem w_cs {G : qG} {h : qH} {cc cc1 : ByteArray} {own : String} {y : MethodName} {ret : Option FieldType} {mL nL f w n idx pc : Nat} {As rest : List Value} {v : Option qA} {lsA : Array Slot} {X : State → Prop} (hXb : qXb X) (hX : ∀ U : State, s.WarmedH U.vm → X U) (hx : p.tables.exec = Jvm.exec) (hb : c.code = cc) (hml : c.maxLocals = nL) (hown : s.vm.findClass own = some m.cls) (hts : ∀ w ∈ qTbl, w.before args s = true) (hK : qK G s) (hbs : qB G ≤ s.heap.size) (hH : qHR G h H) (hS : va_S (qFree G) s.heap H locs)
    (hmet : qMet l G y cc1 mL ret f w As h X v) (h1 : Cond.methodLink own idx y ∈ qTbl) (h2 : Cond.static y ∈ qTbl) (h3 : Cond.initialized y.cls ∈ qTbl) (h4 : Cond.code y cc1 mL ret ∈ qTbl) (hd : y.cls ≠ "java/lang/invoke/MethodHandle" ∧ y.cls ≠ "java/lang/invoke/VarHandle" ∧ (parseMethodDescriptor y.desc).map (fun d => d.parameters.length) = some n) (hn : As.length = n) (hR : f + 1 ≤ R.frames ∧ 8 + (mL + 11) + w ≤ R.locals) (hl : lsA.size = nL) (hcs : (rest.map fun v => v.category).sum ≤ 8) (hdg : decode cc pc = .ok (.invokestatic idx, 3)) (hf : cells ≤ R.cells ∧ slots ≤ R.slots)
    (kk : ∀ (H1 : Heap) (locs1 : List Loc), qHR G h H1 → va_S (qFree G) s.heap H1 locs1 → W p l e R s m args below meth c H1 locs1 cells slots Q (F0 m (pc + 3) lsA ((v.map (qV G)).toList ++ rest))) : W p l e R s m args below meth c H locs cells slots Q (F0 m pc lsA (As.reverse ++ rest)) := by
  have hp : PreS s H (qPv G As h X) As := ⟨qPv_blind G As h hXb, fun U hU hW => ⟨rfl, by rw [hU]; exact hH, qK_moved hW hK, by rw [hU]; exact Nat.le_trans hbs hS.1, hX U hW⟩⟩
  have go : va_Run p l e R s m args below meth c H locs cells slots 0 0 (F0 m pc lsA (As.reverse ++ rest)) rest (qQ G v h As.toArray) (qFree G) :=
    va_runS ⟨hx, hb, hml, hown, hts⟩ hmet (va_cwS n hts (qTbl_in (fun w h => by
        unfold va_wsS at h
        rcases List.mem_append.mp h with h | h
        · rcases List.mem_cons.mp h with e | h
          · rw [e]; exact h1
          · rcases List.mem_cons.mp h with e | h
            · rw [e]; exact h2
            · rw [List.mem_singleton.mp h]; exact h3
        · rcases List.mem_cons.mp h with e | h
          · rw [e]; exact h4
          · exact h)) rfl rfl rfl hd hR) hp rfl hn hl rfl (by show 2 * 0 + _ ≤ 8; omega) hdg ⟨hf.1, hf.2⟩
  exact q_cont go hS (fun H1 locs1 hH1 hvr hS1 => kk H1 locs1 hH1 hS1)
theorem w_cv {G : qG} {h : qH} {cc cc1 : ByteArray} {own : String} {y : MethodName} {ret : Option FieldType} {mL nL f w n idx pc b : Nat} {As rest : List Value} {v : Option qA} {lsA : Array Slot} {X : State → Prop} (hXb : qXb X) (hX : ∀ U : State, s.WarmedH U.vm → X U) (hx : p.tables.exec = Jvm.exec) (hb : c.code = cc) (hml : c.maxLocals = nL) (hown : s.vm.findClass own = some m.cls) (hts : ∀ w ∈ qTbl, w.before args s = true) (hK : qK G s) (hbs : qB G ≤ s.heap.size) (hH : qHR G h H) (hS : va_S (qFree G) s.heap H locs)
    (hmet : qMet l G y cc1 mL ret f w (.ref b :: As) h X v) (h1 : Cond.methodLink own idx y ∈ qTbl) (h2 : Cond.instanceMethod y ∈ qTbl) (h5 : Cond.selects y.cls y y ∈ qTbl) (h3 : Cond.initialized y.cls ∈ qTbl) (h4 : Cond.code y cc1 mL ret ∈ qTbl) (hd : y.cls ≠ "java/lang/invoke/MethodHandle" ∧ y.cls ≠ "java/lang/invoke/VarHandle" ∧ (parseMethodDescriptor y.desc).map (fun d => d.parameters.length) = some n) (hn : As.length = n) (hR : f + 1 ≤ R.frames ∧ 8 + (mL + 11) + w ≤ R.locals) (hl : lsA.size = nL) (hcs : (rest.map fun v => v.category).sum ≤ 8) (hdg : decode cc pc = .ok (.invokevirtual idx, 3)) (hf : cells ≤ R.cells ∧ slots ≤ R.slots)
    (hrc : ∃ cellB : Cell, H[b]? = some cellB ∧ cellB.vm.isStatics = false ∧ s.vm.findClass y.cls = some cellB.cls)
    (kk : ∀ (H1 : Heap) (locs1 : List Loc), qHR G h H1 → (∀ w, v = some w → qRv w) → va_S (qFree G) s.heap H1 locs1 → W p l e R s m args below meth c H1 locs1 cells slots Q (F0 m (pc + 3) lsA ((v.map (qV G)).toList ++ rest))) : W p l e R s m args below meth c H locs cells slots Q (F0 m pc lsA (As.reverse ++ .ref b :: rest)) := by
  have hp : PreV s H y.cls b (qPv G (.ref b :: As) h X) As := ⟨qPv_blind G _ h hXb, hrc, fun U hU hW => ⟨rfl, by rw [hU]; exact hH, qK_moved hW hK, by rw [hU]; exact Nat.le_trans hbs hS.1, hX U hW⟩⟩
  have go : va_Run p l e R s m args below meth c H locs cells slots 0 0 (F0 m pc lsA (As.reverse ++ .ref b :: rest)) rest (qQ G v h (Value.ref b :: As).toArray) (qFree G) :=
    va_runV ⟨hx, hb, hml, hown, hts⟩ hmet (cwV n hts (qTbl_in (fun w h => by
        unfold wsV at h
        rcases List.mem_append.mp h with h | h
        · rcases List.mem_cons.mp h with e | h
          · rw [e]; exact h1
          · rcases List.mem_cons.mp h with e | h
            · rw [e]; exact h2
            · rcases List.mem_cons.mp h with e | h
              · rw [e]; exact h5
              · rw [List.mem_singleton.mp h]; exact h3
        · rcases List.mem_cons.mp h with e | h
          · rw [e]; exact h4
          · exact h)) rfl rfl rfl ⟨rfl, hd⟩ hR) hp rfl hn hl rfl (by show 2 * 0 + _ ≤ 8; omega) hdg ⟨hf.1, hf.2⟩
  exact q_cont go hS (fun H1 locs1 hH1 hvr hS1 => kk H1 locs1 hH1 hvr hS1)
end CharCalls
theorem r32_k {k : Nat} (h : k ≤ 1000) : R32 (k : Int) := ⟨by omega, by omega⟩
theorem w_pci (l : Launch) (G : qG) (h : qH) {k n : Nat} (hk : k < n) (hn : n ≤ 1000) (vf : Value) (hvf : vf = .null ∨ ∃ t : Nat, vf = .ref t) : qMet l G yJ3_checkIndex_8e157 cJ3_checkIndex_8e157 3 (some .int) 0 0 [.int (Int32.ofInt (k : Int)), .int (Int32.ofInt (n : Int)), vf] h (fun _ => True) (some (qI (k : Int))) := by
  refine va_MetF (cc := cJ3_checkIndex_8e157) (maxL := 3) (ret := some .int) (by decide +kernel) rfl ?_
  intro p e s m as below meth c s₁ B hml hv
  obtain ⟨rfl, hH, hK, hbs, hX⟩ := hv
  have hx := B.exec
  have hb := B.bytes
  have hr := B.returns
  have hlk := B.notSynchronized
  have go : ∀ ls : Array Slot, ls[0]? = some (.val (.int (Int32.ofInt (k : Int)))) → ls[1]? = some (.val (.int (Int32.ofInt (n : Int)))) → W p l e (headSpec (Cond.code yJ3_checkIndex_8e157 cJ3_checkIndex_8e157 3 (some .int) :: qTbl) { frames := 0, cells := 0, slots := 0, locals := 0 }).room s m [.int (Int32.ofInt (k : Int)), .int (Int32.ofInt (n : Int)), vf].toArray below meth c s.heap [] 0 0 (MQ below (qQ G (some (qI (k : Int))) h) [.int (Int32.ofInt (k : Int)), .int (Int32.ofInt (n : Int)), vf].toArray s 0 0 (qFree G)) (F0 m 0 ls []) := by
    intro ls h0 h1
    refine lv_iload_n hx hb d_J3_checkIndex_8e157_0 rfl h0 ?_
    refine lv_if_lt hx hb (tgt := 9) d_J3_checkIndex_8e157_1 (by decide) (fun z => absurd ((r32_lt (r32_k (by omega)) r32_0).mp z) (by omega)) (fun _ => ?_)
    refine lv_iload_n hx hb d_J3_checkIndex_8e157_4 rfl h0 ?_
    refine lv_iload_n hx hb d_J3_checkIndex_8e157_5 rfl h1 ?_
    refine lv_icmp_lt hx hb (tgt := 16) d_J3_checkIndex_8e157_6 (by decide) (fun _ => ?_) (fun z => absurd ((r32_lt (r32_k (by omega)) (r32_k (by omega))).mpr (by omega)) z)
    refine lv_iload_n hx hb d_J3_checkIndex_8e157_16 rfl h0 ?_
    exact W.iret hx hb hr (fun t ht hW => z_qQ (v := some (qI (k : Int))) (fun w e => by cases e; exact r32_k (by omega)) hH va_S.rf ht) (fun _ h9 => by cases h9) d_J3_checkIndex_8e157_17 hlk
  rw [lg_entry_eq]
  rcases hvf with rfl | ⟨t, rfl⟩
  · have hl := lv_entry [.int (Int32.ofInt (k : Int)), .int (Int32.ofInt (n : Int)), .null] (n := 3) (Nat.le_of_ble_eq_true rfl)
    exact go _ (lv_at hl 0 rfl) (lv_at hl 1 rfl)
  · have hl := lv_entry [.int (Int32.ofInt (k : Int)), .int (Int32.ofInt (n : Int)), .ref t] (n := 3) (Nat.le_of_ble_eq_true rfl)
    exact go _ (lv_at hl 0 rfl) (lv_at hl 1 rfl)
theorem w_sci (l : Launch) (G : qG) (h : qH) {k n : Nat} (hk : k < n) (hn : n ≤ 1000) : qMet l G yJ0_checkIndex_df160 cJ0_checkIndex_df160 2 none 1 22 [.int (Int32.ofInt (k : Int)), .int (Int32.ofInt (n : Int))] h (fun _ => True) none := by
  refine va_MetF (cc := cJ0_checkIndex_df160) (maxL := 2) (ret := none) (by decide +kernel) rfl ?_
  intro p e s m as below meth c s₁ B hml hv
  obtain ⟨rfl, hH, hK, hbs, hX⟩ := hv
  have hx := B.exec
  have hb := B.bytes
  have hr := B.returns
  have hlk := B.notSynchronized
  have hts0 := atoms_spec (ws := Cond.code yJ0_checkIndex_df160 cJ0_checkIndex_df160 2 none :: qTbl) B.pre
  have hts : ∀ w ∈ qTbl, w.before _ s = true := fun w hw => hts0 w (List.mem_cons_of_mem _ hw)
  have hown : s.vm.findClass RJ0 = some m.cls := findClass_of_methodNamed B.named
  rw [lg_entry_eq]
  have hl := lv_entry [.int (Int32.ofInt (k : Int)), .int (Int32.ofInt (n : Int))] (n := 2) (Nat.le_of_ble_eq_true rfl)
  generalize (lg_sl [.int (Int32.ofInt (k : Int)), .int (Int32.ofInt (n : Int))] ++ List.replicate (2 - (lg_sl [.int (Int32.ofInt (k : Int)), .int (Int32.ofInt (n : Int))]).length) Slot.unset).toArray = ls at hl ⊢
  have hZ := va_Zq.kept hK.2.2.2.2.2.2.2.2 (H1 := s.heap) (fun q hq _ => hH.2.2.2.1 q hq)
  obtain ⟨vf, hvf, hZ⟩ : ∃ vf : Value, (vf = .null ∨ ∃ t : Nat, vf = .ref t) ∧ va_Z "jdk/internal/util/Preconditions" "SIOOBE_FORMATTER" "Ljava/util/function/BiFunction;" vf (fun q => qB G ≤ q) s s.heap := by
    rcases hZ with z | ⟨t, z⟩
    · exact ⟨_, Or.inl rfl, z⟩
    · exact ⟨_, Or.inr ⟨t, rfl⟩, z⟩
  refine lv_iload_n hx hb d_J0_checkIndex_df160_0 rfl (lv_at hl 0 rfl) ?_
  refine lv_iload_n hx hb d_J0_checkIndex_df160_1 rfl (lv_at hl 1 rfl) ?_
  refine va_gets (A := qFree G) hx hb hZ va_S.rf hown (hts _ tx_f1053) (fun _ h9 => h9) d_J0_checkIndex_df160_2 ?_
  refine w_cs (n := 3) (As := [.int (Int32.ofInt (k : Int)), .int (Int32.ofInt (n : Int)), vf]) (rest := []) qXb_t (fun _ _ => trivial) hx hb hml hown hts hK hbs hH va_S.rf (w_pci l G h hk hn vf hvf) tx_pa tx_ps tx_i3 tx_pc ⟨by decide +kernel, by decide +kernel, by decide +kernel⟩ rfl ⟨Nat.le_refl _, Nat.le_refl _⟩ hl.1 (by decide) d_J0_checkIndex_df160_5 ⟨Nat.le_refl _, Nat.le_refl _⟩ (fun H1 locs1 hH1 hS1 => ?_)
  refine lv_pop hx hb d_J0_checkIndex_df160_8 rfl ?_
  exact W.vret hx hb hr (fun t ht hW => z_qQ (v := none) (fun w e => by cases e) hH1 hS1 ht) hS1.2.2 d_J0_checkIndex_df160_9 hlk
theorem w_l1c (l : Launch) (G : qG) (h : qH) {k t : Nat} (hk : k < 91) : qMet l G yJ1_charAt_3b067 cJ1_charAt_3b067 2 (some .char) 2 43 [.ref t, .int (Int32.ofInt (k : Int))] h (fun U => va_T .byte t 91 (fun j => .int (qTb.getD j 0)) (qFree G) U (qH0 G)) (some (qI (chI k))) := by
  refine va_MetF (cc := cJ1_charAt_3b067) (maxL := 2) (ret := some .char) (by decide +kernel) rfl ?_
  intro p e s m as below meth c s₁ B hml hv
  obtain ⟨rfl, hH, hK, hbs, hX⟩ := hv
  have hx := B.exec
  have hb := B.bytes
  have hr := B.returns
  have hlk := B.notSynchronized
  have hts0 := atoms_spec (ws := Cond.code yJ1_charAt_3b067 cJ1_charAt_3b067 2 (some .char) :: qTbl) B.pre
  have hts : ∀ w ∈ qTbl, w.before _ s = true := fun w hw => hts0 w (List.mem_cons_of_mem _ hw)
  have hown : s.vm.findClass RJ1 = some m.cls := findClass_of_methodNamed B.named
  rw [lg_entry_eq]
  have hl := lv_entry [.ref t, .int (Int32.ofInt (k : Int))] (n := 2) (Nat.le_of_ble_eq_true rfl)
  generalize (lg_sl [.ref t, .int (Int32.ofInt (k : Int))] ++ List.replicate (2 - (lg_sl [.ref t, .int (Int32.ofInt (k : Int))]).length) Slot.unset).toArray = ls at hl ⊢
  have hT1 : va_T .byte t 91 (fun j => .int (qTb.getD j 0)) (qFree G) s s.heap := va_T.kept hX (fun q hq _ => hH.2.2.2.1 q hq)
  refine lv_iload_n hx hb d_J1_charAt_3b067_0 rfl (lv_at hl 1 rfl) ?_
  refine lv_aload_n hx hb d_J1_charAt_3b067_1 rfl (lv_at hl 0 rfl) ?_
  refine va_tlen (A := qFree G) hx hb hT1 va_S.rf (v := Int32.ofInt ((91 : Nat) : Int)) (by decide) d_J1_charAt_3b067_2 ?_
  refine w_cs (n := 2) (As := [.int (Int32.ofInt (k : Int)), .int (Int32.ofInt ((91 : Nat) : Int))]) (rest := []) qXb_t (fun _ _ => trivial) hx hb hml hown hts hK hbs hH va_S.rf (w_sci l G h hk (by decide)) tx_xa tx_xs tx_i0 tx_xc ⟨by decide +kernel, by decide +kernel, by decide +kernel⟩ rfl ⟨Nat.le_refl _, Nat.le_refl _⟩ hl.1 (by decide) d_J1_charAt_3b067_3 ⟨Nat.le_refl _, Nat.le_refl _⟩ (fun H1 locs1 hH1 hS1 => ?_)
  refine lv_aload_n hx hb d_J1_charAt_3b067_6 rfl (lv_at hl 0 rfl) ?_
  refine lv_iload_n hx hb d_J1_charAt_3b067_7 rfl (lv_at hl 1 rfl) ?_
  refine va_tb (A := qFree G) hx hb hT1 hS1 (r32_in_of (r32_k (by omega)) (by omega) (by omega)) (v := .int (qTb.getD k 0)) (by rw [r32_nat (r32_k (by omega)), Int.toNat_natCast]) d_J1_charAt_3b067_8 ?_
  refine lv_sipush hx hb d_J1_charAt_3b067_9 (v := 255) (by decide) ?_
  refine lv_iand hx hb d_J1_charAt_3b067_12 ?_
  refine lv_i2c hx hb d_J1_charAt_3b067_13 (ch_all ⟨k, hk⟩).1 ?_
  rw [← ch_of k]
  exact W.zret hx hb hr (v := Int32.ofInt (chI k)) (ch_nw hk) (fun t ht hW => z_qQ (v := some (qI (chI k))) (fun w e => by cases e; exact r32_in) hH1 hS1 ht) hS1.2.2 d_J1_charAt_3b067_14 hlk
theorem w_il1 (l : Launch) (G : qG) (h : qH) : qMet l G yJ0_isLatin1_aae02 cJ0_isLatin1_aae02 1 (some .boolean) 0 0 [.ref (qStr G)] h (fun _ => True) (some (qI 1)) := by
  refine va_MetF (cc := cJ0_isLatin1_aae02) (maxL := 1) (ret := some .boolean) (by decide +kernel) rfl ?_
  intro p e s m as below meth c s₁ B hml hv
  obtain ⟨rfl, hH, hK, hbs, hX⟩ := hv
  have hx := B.exec
  have hb := B.bytes
  have hr := B.returns
  have hlk := B.notSynchronized
  have hts0 := atoms_spec (ws := Cond.code yJ0_isLatin1_aae02 cJ0_isLatin1_aae02 1 (some .boolean) :: qTbl) B.pre
  have hts : ∀ w ∈ qTbl, w.before _ s = true := fun w hw => hts0 w (List.mem_cons_of_mem _ hw)
  have hown : s.vm.findClass RJ0 = some m.cls := findClass_of_methodNamed B.named
  rw [lg_entry_eq]
  have hl := lv_entry [.ref (qStr G)] (n := 1) (Nat.le_of_ble_eq_true rfl)
  generalize (lg_sl [.ref (qStr G)] ++ List.replicate (1 - (lg_sl [.ref (qStr G)]).length) Slot.unset).toArray = ls at hl ⊢
  have hZ := va_Z.kept hK.2.2.2.2.2.2.2.1 (H1 := s.heap) (fun q hq _ => hH.2.2.2.1 q hq)
  obtain ⟨adV, hE⟩ := hK.2.2.2.2.2.2.1
  have hE := vk_S.kept hE (H1 := s.heap) (fun q hq _ => hH.2.2.2.1 q hq)
  refine va_gets (A := qFree G) hx hb hZ va_S.rf hown (hts _ tx_f38) (fun _ h9 => h9) d_J0_isLatin1_aae02_0 ?_
  refine lv_if_eq hx hb (tgt := 17) d_J0_isLatin1_aae02_3 (by decide) (fun z => absurd z (by decide)) (fun _ => ?_)
  refine lv_aload_n hx hb d_J0_isLatin1_aae02_6 rfl (lv_at hl 0 rfl) ?_
  refine vk_getf (A := qFree G) hx hb (hE.1 0 (by decide)).2.1 va_S.rf hown (hts _ tx_f15) (fun _ h9 => h9) d_J0_isLatin1_aae02_7 ?_
  refine lv_if_ne hx hb (tgt := 17) d_J0_isLatin1_aae02_10 (by decide) (fun z => absurd rfl z) (fun _ => ?_)
  refine lv_iconst hx hb d_J0_isLatin1_aae02_13 (v := Int32.ofInt 1) rfl ?_
  refine lv_goto hx hb (tgt := 18) d_J0_isLatin1_aae02_14 (by decide) ?_
  exact W.zret hx hb hr rfl (fun t ht hW => z_qQ (v := some (qI 1)) (fun w e => by cases e; exact ⟨by decide, by decide⟩) hH va_S.rf ht) (fun _ h9 => by cases h9) d_J0_isLatin1_aae02_18 hlk
theorem w_sca (l : Launch) (G : qG) (h : qH) {k : Nat} (hk : k < 91) : qMet l G yJ0_charAt_5068e cJ0_charAt_5068e 2 (some .char) 3 64 [.ref (qStr G), .int (Int32.ofInt (k : Int))] h (fun _ => True) (some (qI (chI k))) := by
  refine va_MetF (cc := cJ0_charAt_5068e) (maxL := 2) (ret := some .char) (by decide +kernel) rfl ?_
  intro p e s m as below meth c s₁ B hml hv
  obtain ⟨rfl, hH, hK, hbs, hX⟩ := hv
  have hx := B.exec
  have hb := B.bytes
  have hr := B.returns
  have hlk := B.notSynchronized
  have hts0 := atoms_spec (ws := Cond.code yJ0_charAt_5068e cJ0_charAt_5068e 2 (some .char) :: qTbl) B.pre
  have hts : ∀ w ∈ qTbl, w.before _ s = true := fun w hw => hts0 w (List.mem_cons_of_mem _ hw)
  have hown : s.vm.findClass RJ0 = some m.cls := findClass_of_methodNamed B.named
  rw [lg_entry_eq]
  have hl := lv_entry [.ref (qStr G), .int (Int32.ofInt (k : Int))] (n := 2) (Nat.le_of_ble_eq_true rfl)
  generalize (lg_sl [.ref (qStr G), .int (Int32.ofInt (k : Int))] ++ List.replicate (2 - (lg_sl [.ref (qStr G), .int (Int32.ofInt (k : Int))]).length) Slot.unset).toArray = ls at hl ⊢
  obtain ⟨adV, hE0⟩ := hK.2.2.2.2.2.2.1
  have hE := vk_S.kept hE0 (H1 := s.heap) (fun q hq _ => hH.2.2.2.1 q hq)
  refine lv_aload_n hx hb d_J0_charAt_5068e_0 rfl (lv_at hl 0 rfl) ?_
  refine w_cv (n := 0) (As := []) (rest := []) qXb_t (fun _ _ => trivial) hx hb hml hown hts hK hbs hH va_S.rf (w_il1 l G h) tx_la tx_li tx_ls tx_i0 tx_lc ⟨by decide +kernel, by decide +kernel, by decide +kernel⟩ rfl ⟨Nat.le_of_ble_eq_true rfl, Nat.le_of_ble_eq_true rfl⟩ hl.1 (by decide) d_J0_charAt_5068e_1 ⟨Nat.le_refl _, Nat.le_refl _⟩ (vk_recv (A := qFree G) hE (i := 0) (by decide) va_S.rf) (fun H1 locs1 hH1 _ hS1 => ?_)
  refine lv_if_eq hx hb (x := 1) (tgt := 16) d_J0_charAt_5068e_4 (by decide) (fun z => absurd z (by decide)) (fun _ => ?_)
  refine lv_aload_n hx hb d_J0_charAt_5068e_7 rfl (lv_at hl 0 rfl) ?_
  refine vk_getf (A := qFree G) hx hb (hE.1 0 (by decide)).2.2.1 hS1 hown (hts _ tx_f9) (fun _ h9 => h9) d_J0_charAt_5068e_8 ?_
  refine lv_iload_n hx hb d_J0_charAt_5068e_11 rfl (lv_at hl 1 rfl) ?_
  refine w_cs (n := 2) (As := [.ref (adV 0), .int (Int32.ofInt (k : Int))]) (rest := []) (fun _ U g mk q => va_T.moved (u := U) (U := U.calling g mk _) (Vm.Alike.refl U.vm) q) (fun U hW => va_T.moved hW.alike (hE0.1 0 (by decide)).2.2.2) hx hb hml hown hts hK hbs hH1 hS1 (w_l1c l G h hk) tx_1a tx_1s tx_i1 tx_1c ⟨by decide +kernel, by decide +kernel, by decide +kernel⟩ rfl ⟨Nat.le_refl _, Nat.le_refl _⟩ hl.1 (by decide) d_J0_charAt_5068e_12 ⟨Nat.le_refl _, Nat.le_refl _⟩ (fun H2 locs2 hH2 hS2 => ?_)
  exact W.zret hx hb hr (v := Int32.ofInt (chI k)) (ch_nw hk) (fun t ht hW => z_qQ (v := some (qI (chI k))) (fun w e => by cases e; exact r32_in) hH2 hS2 ht) hS2.2.2 d_J0_charAt_5068e_15 hlk
section CharRules
variable {M : qM} {pc : Nat} {ls st : List qA} {h hr : qH} {r : Option qA}
theorem z_ldcS (hd : decode (qMc M) pc = .ok (.ldc 103, 2)) (hM : (qMy M).cls = RX4) (k : qEx M (pc + 2) ls (qR 0 :: st) h r hr) : qEx M pc ls st h r hr := by
  unfold qEx at *
  refine ⟨k.1, k.2.1, fun G p l e s m args below meth c H locs cells slots mc ms lsA C hH hS hRl hRs hc hs hL => ?_⟩
  obtain ⟨hx, hb, hml, hrt, hown, hlk, hnm, hts, hK, hbs⟩ := id C
  have k2 := k.2.2 G p l e s m args below meth c H locs cells slots mc ms lsA C hH hS hRl (qRs_cons trivial hRs) hc hs hL
  rw [hM] at hown
  exact va_ldcS hx hb hown hK.2.2.2.2.2.1 hd k2
theorem z_charAt {i : Int} (k : Nat) (hd : decode (qMc M) pc = .ok (.invokevirtual 105, 3)) (hM : (qMy M).cls = RX4) (hi : i = (k : Int)) (hk : k < 91) (hf : 4 ≤ qMf M) (hw : 85 ≤ qMw M) (hcs : qCs st ≤ 8) (kk : qEx M (pc + 3) ls (qI (chI k) :: st) h r hr) : qEx M pc ls (qI i :: qR 0 :: st) h r hr := by
  subst hi
  unfold qEx at *
  refine ⟨kk.1, kk.2.1, fun G p l e s m args below meth c H locs cells slots mc ms lsA C hH hS hRl hRs hc hs hL => ?_⟩
  obtain ⟨hx, hb, hml, hrt, hown, hlk, hnm, hts, hK, hbs⟩ := id C
  rw [hM] at hown
  obtain ⟨adV, hE0⟩ := hK.2.2.2.2.2.2.1
  have hE := vk_S.kept hE0 (H1 := s.heap) (fun q hq hq2 => by rw [← hS.2.1 q (Nat.lt_of_lt_of_le hq hbs) hq2]; exact hH.2.2.2.1 q hq)
  refine w_cv (n := 1) (As := [.int (Int32.ofInt (k : Int))]) (rest := st.map (qV G)) (b := qStr G) qXb_t (fun _ _ => trivial) hx hb hml hown hts hK hbs hH hS (w_sca l G h hk) tx_ca tx_ci tx_cs tx_i0 tx_cc ⟨by decide +kernel, by decide +kernel, by decide +kernel⟩ rfl ⟨hf, hw⟩ hL.1 (by rw [qCs_ok]; exact hcs) hd ⟨by show cells ≤ mc; omega, by show slots ≤ ms; omega⟩ (vk_recv (A := qFree G) hE (i := 0) (by decide) hS) (fun H1 locs1 hH1 hvr hS1 => ?_)
  exact kk.2.2 G p l e s m args below meth c H1 locs1 cells slots mc ms lsA C hH1 hS1 hRl (qRs_cons (hvr _ rfl) (qRs_tail (qRs_tail hRs))) hc hs hL
end CharRules
