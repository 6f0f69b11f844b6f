/-! ===== CONTRACTS: the reference: breath, breaths ===== -/
/-- what may stand in a wall's row -/
def rwLo (j : Nat) : Int := if j = 164 then -1 else 0
def rwHi (j : Nat) : Int := if j < 64 then 7 else if j < 128 then 1 else if j < 160 then 3 else if j = 160 then 32 else if j = 161 then 1 else if j = 162 then 9999 else if j = 163 then 319968 else if j = 164 then 9999 else if j = 165 then 32 else 150
def rwOk (N : Nat → Int) : Prop := (∀ j, j < 167 → rwLo j ≤ N j ∧ N j ≤ rwHi j) ∧ N 163 ≤ 32 * N 162
theorem rw_at {N : Nat → Int} (h : rwOk N) {j : Nat} (hj : j < 167) {a b : Int} (ha : rwLo j = a) (hb : rwHi j = b) : a ≤ N j ∧ N j ≤ b := by
  subst ha; subst hb
  exact h.1 j hj
theorem rw_lo {j : Nat} (h : j < 160) : rwLo j = 0 := by unfold rwLo; rw [if_neg (by omega)]
theorem rw_h7 {j : Nat} (h : j < 64) : rwHi j = 7 := by unfold rwHi; rw [if_pos h]
theorem rw_h1 {j : Nat} (h : 64 ≤ j) (h2 : j < 128) : rwHi j = 1 := by unfold rwHi; rw [if_neg (by omega), if_pos h2]
theorem rw_h3 {j : Nat} (h : 128 ≤ j) (h2 : j < 160) : rwHi j = 3 := by unfold rwHi; rw [if_neg (by omega), if_neg (by omega), if_pos h2]
theorem rw_m {N : Nat → Int} (h : rwOk N) {j : Nat} (hj : j < 64) : 0 ≤ N j ∧ N j ≤ 7 := rw_at h (by omega) (rw_lo (by omega)) (rw_h7 hj)
theorem rw_d {N : Nat → Int} (h : rwOk N) {j : Nat} (hj : 64 ≤ j) (h2 : j < 128) : 0 ≤ N j ∧ N j ≤ 1 := rw_at h (by omega) (rw_lo (by omega)) (rw_h1 hj h2)
theorem rw_g {N : Nat → Int} (h : rwOk N) {j : Nat} (hj : 128 ≤ j) (h2 : j < 160) : 0 ≤ N j ∧ N j ≤ 3 := rw_at h (by omega) (rw_lo (by omega)) (rw_h3 hj h2)
theorem rw_up {N : Nat → Int} (h : rwOk N) {j : Nat} {v : Int} (hv : rwLo j ≤ v ∧ v ≤ rwHi j) (h1 : j ≠ 162) (h2 : j ≠ 163) : rwOk (qup N j v) := by
  refine ⟨fun i hi => ?_, ?_⟩
  · by_cases e : i = j
    · rw [e, qup_eq]; exact hv
    · rw [qup_ne e]; exact h.1 i hi
  · rw [qup_ne (fun e => h1 e.symm), qup_ne (fun e => h2 e.symm)]
    exact h.2
/-- an act done to a keeper -/
def becA (what : Int) (who : Nat) (v : Int) (N : Nat → Int) : Nat → Int := if what = 0 then qup N who v else if what = 1 then qup N (64 + who) 1 else if what = 2 then qup N (64 + who) 0 else if what = 3 then qup N (96 + who) 1 else if what = 4 then qup N (96 + who) 0 else qup N (128 + who) v
def becV (what v : Int) : Int := if what = 0 then v else if what = 5 then v else 0
def becG (g : Nat → Nat → Int) (what : Int) (who : Nat) (v : Int) : Nat → Nat → Int := logG (gup g 11 (becA what who v (g 11))) what (who : Int) (becV what v)
def actOk (what v : Int) : Prop := (0 ≤ what ∧ what ≤ 5) ∧ 0 ≤ v ∧ v ≤ 7 ∧ (what = 5 → v ≤ 3)
theorem c_bec {h : qH} {m : Nat} {f : Nat → Int} {g : Nat → Nat → Int} (what : Int) (who : Nat) (v : Int) (hm : 2 ≤ m) (hw : who < 32) (hL : 0 ≤ g 11 166 ∧ g 11 166 ≤ 150) (hk : 0 ≤ what ∧ what ≤ 5) : qEx M_X12_becomes 0 [qR m, qI what, qI (who : Int), qI v] [] (rput h m f g) none (rput h m f (becG g what who v)) := by
  have e : g 11 166 = (((g 11 166).toNat : Nat) : Int) := by omega
  obtain rfl | rfl | rfl | rfl | rfl | rfl : what = 0 ∨ what = 1 ∨ what = 2 ∨ what = 3 ∨ what = 4 ∨ what = 5 := by omega
  · exact c_becomes0 who v hm hw e (by omega)
  · exact c_becomes1 who v hm hw e (by omega)
  · exact c_becomes2 who v hm hw e (by omega)
  · exact c_becomes3 who v hm hw e (by omega)
  · exact c_becomes4 who v hm hw e (by omega)
  · exact c_becomes5 who v hm hw e (by omega)
theorem becA_hi {what : Int} {who : Nat} {v : Int} {N : Nat → Int} {j : Nat} (hw : who < 32) (hj : 160 ≤ j) : becA what who v N j = N j := by
  unfold becA
  repeat' split
  all_goals exact qup_ne (by omega)
theorem becA_ok {what : Int} {who : Nat} {v : Int} {N : Nat → Int} (h : rwOk N) (hw : who < 32) (hk : actOk what v) : rwOk (becA what who v N) := by
  obtain ⟨h1, h2, h3, h4⟩ := hk
  unfold becA
  repeat' split
  · exact rw_up h (by rw [rw_lo (by omega), rw_h7 (by omega)]; omega) (by omega) (by omega)
  · exact rw_up h (by rw [rw_lo (by omega), rw_h1 (by omega) (by omega)]; omega) (by omega) (by omega)
  · exact rw_up h (by rw [rw_lo (by omega), rw_h1 (by omega) (by omega)]; omega) (by omega) (by omega)
  · exact rw_up h (by rw [rw_lo (by omega), rw_h1 (by omega) (by omega)]; omega) (by omega) (by omega)
  · exact rw_up h (by rw [rw_lo (by omega), rw_h1 (by omega) (by omega)]; omega) (by omega) (by omega)
  · exact rw_up h (by rw [rw_lo (by omega), rw_h3 (by omega) (by omega)]; omega) (by omega) (by omega)
theorem logG_11 {g : Nat → Nat → Int} {a b c : Int} : logG g a b c 11 = if g 11 166 = 150 then g 11 else qup (g 11) 166 (g 11 166 + 1) := by
  unfold logG
  split
  · rfl
  · rw [gup_eq]
theorem logG_ne {g : Nat → Nat → Int} {a b c : Int} {j : Nat} (h1 : j ≠ 11) (h2 : j ≠ 13) : logG g a b c j = g j := by
  unfold logG
  split
  · rfl
  · rw [gup_ne h1, gup_ne h2]
theorem logG_ok {g : Nat → Nat → Int} {a b c : Int} (h : rwOk (g 11)) : rwOk (logG g a b c 11) := by
  rw [logG_11]
  have h1 := rw_at (a := 0) (b := 150) h (j := 166) (by decide) rfl rfl
  split
  · exact h
  · exact rw_up h (by show (0 : Int) ≤ _ ∧ _ ≤ (150 : Int); omega) (by decide) (by decide)
theorem logG_at {g : Nat → Nat → Int} {a b c : Int} {j : Nat} (hj : j ≠ 166) : logG g a b c 11 j = g 11 j := by
  rw [logG_11]
  split
  · rfl
  · exact qup_ne hj
theorem becG_ok {g : Nat → Nat → Int} {what : Int} {who : Nat} {v : Int} (h : rwOk (g 11)) (hw : who < 32) (hk : actOk what v) : rwOk (becG g what who v 11) := logG_ok (by rw [gup_eq]; exact becA_ok h hw hk)
theorem becG_hi {g : Nat → Nat → Int} {what : Int} {who : Nat} {v : Int} {j : Nat} (hw : who < 32) (hj : 160 ≤ j) (h6 : j ≠ 166) : becG g what who v 11 j = g 11 j := by
  unfold becG
  rw [logG_at h6, gup_eq, becA_hi hw hj]
theorem becG_ne {g : Nat → Nat → Int} {what : Int} {who : Nat} {v : Int} {j : Nat} (h1 : j ≠ 11) (h2 : j ≠ 13) : becG g what who v j = g j := by
  unfold becG
  rw [logG_ne h1 h2, gup_ne h1]
/-- the PLAN's acts of this breath -/
def plOk (P : Nat → Int) (pl : Nat) : Prop := pl ≤ 16 ∧ ∀ i, i < pl → actOk (P (4 * i + 1)) (P (4 * i + 3)) ∧ 0 ≤ P (4 * i + 2) ∧ P (4 * i + 2) ≤ 31
def plQ (g : Nat → Nat → Int) (i : Nat) : Prop := g 7 (4 * i) = g 11 162 ∧ g 7 (4 * i + 2) < g 11 160
noncomputable def plG (g : Nat → Nat → Int) : Nat → Nat → Nat → Int
  | 0 => g
  | i + 1 => qif (plQ (plG g i) i) (becG (plG g i) (plG g i 7 (4 * i + 1)) (plG g i 7 (4 * i + 2)).toNat (plG g i 7 (4 * i + 3))) (plG g i)
theorem plG_inv {g : Nat → Nat → Int} {pl : Nat} (h : rwOk (g 11)) (hP : plOk (g 7) pl) : ∀ i, i ≤ pl → rwOk (plG g i 11) ∧ (∀ j, 160 ≤ j → j ≠ 166 → plG g i 11 j = g 11 j) ∧ ∀ j, j ≠ 11 → j ≠ 13 → plG g i j = g j
  | 0, _ => ⟨h, fun _ _ _ => rfl, fun _ _ _ => rfl⟩
  | i + 1, hi => by
    obtain ⟨a, b, c⟩ := plG_inv h hP i (by omega)
    have d := hP.2 i (by omega)
    have e := c 7 (by decide) (by decide)
    by_cases q : plQ (plG g i) i
    · have e1 : plG g (i + 1) = becG (plG g i) (plG g i 7 (4 * i + 1)) (plG g i 7 (4 * i + 2)).toNat (plG g i 7 (4 * i + 3)) := qif_t q
      rw [e1, e]
      exact ⟨becG_ok a (by omega) d.1, fun j hj h6 => (becG_hi (by omega) hj h6).trans (b j hj h6), fun j h1 h2 => (becG_ne h1 h2).trans (c j h1 h2)⟩
    · have e1 : plG g (i + 1) = plG g i := qif_f q
      rw [e1]
      exact ⟨a, b, c⟩
noncomputable def goG (n : Nat) (g : Nat → Nat → Int) : Nat → Nat → Int := gup (gup g 29 (qmx n (rnx (g 25) (g 11) n) (g 29))) 11 (qup (rmv (g 25) (g 11) n n) 163 (g 11 163 + cnt (rdc (g 26) (g 11) n) n))
noncomputable def ffG (n : Nat) (g : Nat → Nat → Int) : Nat → Nat → Int := qif (g 11 164 = -1 ∧ cnt (fun k => g 11 k = 7) n > 0) (logG (gup g 11 (qup (qup (g 11) 164 (g 11 162)) 165 (cnt (fun k => g 11 k = 7) n))) 6 (fst (fun k => g 11 k = 7) n) (cnt (fun k => g 11 k = 7) n)) g
def tkG (g : Nat → Nat → Int) : Nat → Nat → Int := gup g 11 (qup (g 11) 162 (g 11 162 + 1))
noncomputable def brG (n pl : Nat) (g : Nat → Nat → Int) : Nat → Nat → Int := tkG (ffG n (goG n (plG g pl)))
theorem goG_ok {n : Nat} {g : Nat → Nat → Int} (hn : n ≤ 32) (h : rwOk (g 11)) (hb : g 11 162 ≤ 9998) (hT : ∀ c, c < 648 → 0 ≤ g 25 c ∧ g 25 c ≤ 7) : (∀ j, j < 167 → rwLo j ≤ goG n g 11 j ∧ goG n g 11 j ≤ rwHi j) ∧ goG n g 11 163 ≤ 32 * (g 11 162 + 1) := by
  have hc := cnt_bd (rdc (g 26) (g 11) n) n
  have h3 := rw_at (a := 0) (b := 319968) h (j := 163) (by decide) rfl rfl
  have h2 := h.2
  unfold goG
  rw [gup_eq, qup_eq]
  refine ⟨fun j hj => ?_, by omega⟩
  by_cases e : j = 163
  · rw [e, qup_eq]
    show (0 : Int) ≤ _ ∧ _ ≤ (319968 : Int)
    omega
  · rw [qup_ne e]
    by_cases e2 : j < 64
    · rw [rw_lo (by omega), rw_h7 e2]
      exact rmv_bd hn hT (fun j hj => rw_m h hj) e2
    · rw [rmv_hi hn (by omega)]
      exact h.1 j hj
theorem goG_hi {n : Nat} {g : Nat → Nat → Int} {j : Nat} (hn : n ≤ 32) (hj : 64 ≤ j) (h3 : j ≠ 163) : goG n g 11 j = g 11 j := by
  unfold goG
  rw [gup_eq, qup_ne h3, rmv_hi hn hj]
theorem goG_ne {n : Nat} {g : Nat → Nat → Int} {j : Nat} (h1 : j ≠ 11) (h2 : j ≠ 29) : goG n g j = g j := by
  unfold goG
  rw [gup_ne h1, gup_ne h2]
theorem ffG_ne {n : Nat} {g : Nat → Nat → Int} {j : Nat} (h1 : j ≠ 11) (h2 : j ≠ 13) : ffG n g j = g j := by
  unfold ffG
  refine qif_or (fun z : Nat → Nat → Int => z j = g j) ?_ rfl
  rw [logG_ne h1 h2, gup_ne h1]
theorem ffG_at {n : Nat} {g : Nat → Nat → Int} {j : Nat} (h4 : j ≠ 164) (h5 : j ≠ 165) (h6 : j ≠ 166) : ffG n g 11 j = g 11 j := by
  unfold ffG
  refine qif_or (fun z : Nat → Nat → Int => z 11 j = g 11 j) ?_ rfl
  rw [logG_at h6, gup_eq, qup_ne h5, qup_ne h4]
theorem ffG_rg {n : Nat} {g : Nat → Nat → Int} (hn : n ≤ 32) (h : ∀ j, j < 167 → rwLo j ≤ g 11 j ∧ g 11 j ≤ rwHi j) : ∀ j, j < 167 → rwLo j ≤ ffG n g 11 j ∧ ffG n g 11 j ≤ rwHi j := by
  intro j hj
  have hc := cnt_bd (fun k => g 11 k = 7) n
  have h2 : 0 ≤ g 11 162 ∧ g 11 162 ≤ 9999 := h 162 (by decide)
  have h6 : 0 ≤ g 11 166 ∧ g 11 166 ≤ 150 := h 166 (by decide)
  have hj2 := h j hj
  unfold ffG
  refine qif_or (fun z : Nat → Nat → Int => rwLo j ≤ z 11 j ∧ z 11 j ≤ rwHi j) ?_ hj2
  by_cases e6 : j = 166
  · subst e6
    rw [logG_11, gup_eq]
    have e : qup (qup (g 11) 164 (g 11 162)) 165 (cnt (fun k => g 11 k = 7) n) 166 = g 11 166 := by rw [qup_ne (by decide), qup_ne (by decide)]
    rw [e]
    show (0 : Int) ≤ _ ∧ _ ≤ (150 : Int)
    split
    · rw [e]; omega
    · rw [qup_eq]; omega
  · rw [logG_at e6, gup_eq]
    by_cases e5 : j = 165
    · subst e5
      rw [qup_eq]
      show (0 : Int) ≤ _ ∧ _ ≤ (32 : Int)
      omega
    · rw [qup_ne e5]
      by_cases e4 : j = 164
      · subst e4
        rw [qup_eq]
        show (-1 : Int) ≤ _ ∧ _ ≤ (9999 : Int)
        omega
      · rw [qup_ne e4]; exact hj2
theorem brG_ok {n pl : Nat} {g : Nat → Nat → Int} (hn : n ≤ 32) (h : rwOk (g 11)) (hP : plOk (g 7) pl) (hb : g 11 162 ≤ 9998) (hT : ∀ c, c < 648 → 0 ≤ g 25 c ∧ g 25 c ≤ 7) : rwOk (brG n pl g 11) ∧ brG n pl g 11 162 = g 11 162 + 1 ∧ (∀ j, 160 ≤ j → j ≤ 161 → brG n pl g 11 j = g 11 j) ∧ ∀ j, j ≠ 11 → j ≠ 13 → j ≠ 29 → brG n pl g j = g j := by
  obtain ⟨a, b, c⟩ := plG_inv h hP pl (Nat.le_refl _)
  have b2 := b 162 (by decide) (by decide)
  have hT2 : ∀ c, c < 648 → 0 ≤ plG g pl 25 c ∧ plG g pl 25 c ≤ 7 := fun q hq => by rw [c 25 (by decide) (by decide)]; exact hT q hq
  obtain ⟨d1, d2⟩ := goG_ok hn a (by omega) hT2
  have e := ffG_rg (n := n) hn d1
  have e2 : ffG n (goG n (plG g pl)) 11 162 = g 11 162 := by rw [ffG_at (by decide) (by decide) (by decide), goG_hi hn (by decide) (by decide), b2]
  have e3 : ffG n (goG n (plG g pl)) 11 163 ≤ 32 * (g 11 162 + 1) := by rw [ffG_at (by decide) (by decide) (by decide), ← b2]; exact d2
  have hb0 := rw_at (a := 0) (b := 9999) h (j := 162) (by decide) rfl rfl
  refine ⟨⟨fun j hj => ?_, ?_⟩, ?_, fun j h1 h2 => ?_, fun j h1 h2 h3 => ?_⟩
  · unfold brG tkG
    rw [gup_eq]
    by_cases q : j = 162
    · subst q
      rw [qup_eq, e2]
      show (0 : Int) ≤ _ ∧ _ ≤ (9999 : Int)
      omega
    · rw [qup_ne q]; exact e j hj
  · unfold brG tkG
    rw [gup_eq, qup_eq, qup_ne (by decide), e2]
    exact e3
  · unfold brG tkG
    rw [gup_eq, qup_eq, e2]
  · unfold brG tkG
    rw [gup_eq, qup_ne (by omega), ffG_at (by omega) (by omega) (by omega), goG_hi hn (by omega) (by omega), b j h1 (by omega)]
  · unfold brG tkG
    rw [gup_ne h1, ffG_ne h1 h2, goG_ne h1 h3, c j h1 h2]
set_option maxRecDepth 20000 in
set_option maxHeartbeats 4000000 in
theorem c_breath {h : qH} {m : Nat} {f : Nat → Int} {g : Nat → Nat → Int} {n pl : Nat} (hm : 2 ≤ m) (hN : g 11 160 = (n : Int)) (hpl : f 18 = (pl : Int)) (hR : rwOk (g 11)) (hP : plOk (g 7) pl) (hb : g 11 162 ≤ 9998) (hT : ∀ c, c < 648 → 0 ≤ g 25 c ∧ g 25 c ≤ 7) : qEx M_X12_breath 0 [qR m, qU] [] (rput h m f g) none (rput h m f (brG n pl g)) := by
  refine q_gen (fun r hr er eh => ?_)
  have hn : n ≤ 32 := by have := rw_at (a := 0) (b := 32) hR (j := 160) (by decide) rfl rfl; omega
  have hp16 := hP.1
  refine z_iconst d_X12_breath_0 (by decide) ?_
  refine z_istore_n (ls' := [qR m, qI 0]) d_X12_breath_1 rfl (by decide) rfl ?_
  refine z_eq (qc rfl (qc (qi (by omega)) rfl)) rfl rfl (z_for pl (fun i => [qR m, qI (i : Int)]) (fun i => (rput h m f (plG g i))) (fun i => True) trivial (fun i hii hp kki => ?_) (fun hp => ?_))
  · show qEx M_X12_breath 2 [qR m, qI (i : Int)] [] (rput h m f (plG g i)) r hr
    obtain ⟨hv1, hv2, hv3⟩ := plG_inv hR hP i (by omega)
    have hv6 := rw_at (a := 0) (b := 150) hv1 (j := 166) (by decide) rfl rfl
    have hv7 : (plG g i) 7 = g 7 := hv3 7 (by decide) (by decide)
    have hd9 := hP.2 i hii
    refine z_iload_n d_X12_breath_2 rfl rfl ?_
    refine z_aload_n d_X12_breath_3 rfl rfl ?_
    refine z_getf (v := qI (f 18)) d_X12_breath_4 fl_X12_246 rput_o rfl ?_
    refine z_eq rfl (qc (qi hpl) rfl) rfl ?_
    refine z_icmp_ge 90 d_X12_breath_7 (by decide) (fun hc1 => absurd hc1 (by omega)) (fun hc1 => ?_)
    refine z_aload_n d_X12_breath_10 rfl rfl ?_
    refine z_getf (v := qR (m + 7)) d_X12_breath_11 fl_X12_32 rput_o rfl ?_
    refine z_iconst d_X12_breath_14 (by decide) ?_
    refine z_iload_n d_X12_breath_15 rfl rfl ?_
    refine z_imul d_X12_breath_16 (by omega) ?_
    refine z_ild (4 * i) d_X12_breath_17 (rput_a2 7 (t := 0) (n := 64) (F := ((plG g i) 7)) rfl rfl rfl (by decide) (by decide)) rfl (by omega) ?_
    refine z_aload_n d_X12_breath_18 rfl rfl ?_
    refine z_getf (v := qR (m + 11)) d_X12_breath_19 fl_X12_44 rput_o rfl ?_
    refine z_sipush d_X12_breath_22 (by decide) ?_
    refine z_ild 162 d_X12_breath_25 (rput_a2 11 (t := 0) (n := 167) (F := ((plG g i) 11)) rfl rfl rfl (by decide) (by decide)) rfl (by omega) ?_
    refine z_icmp_ne 84 d_X12_breath_26 (by decide) (fun q3 => ?_) (fun q3 => ?_)
    · refine z_iinc (ls' := [qR m, qI ((i : Int) + 1)]) d_X12_breath_84 rfl (by decide) (by omega) rfl ?_
      refine z_goto 2 d_X12_breath_87 (by decide) ?_
      exact z_eq (qc rfl (qc (qi (by omega)) rfl)) rfl (rput_cg rfl (show (plG g i) = qif (plQ (plG g i) i) _ _ by rw [qif_f (fun z9 => by first | exact q3 z9.1 | (have := z9.2; omega))])) (kki trivial)
    · refine z_aload_n d_X12_breath_29 rfl rfl ?_
      refine z_getf (v := qR (m + 7)) d_X12_breath_30 fl_X12_32 rput_o rfl ?_
      refine z_iconst d_X12_breath_33 (by decide) ?_
      refine z_iload_n d_X12_breath_34 rfl rfl ?_
      refine z_imul d_X12_breath_35 (by omega) ?_
      refine z_iconst d_X12_breath_36 (by decide) ?_
      refine z_iadd d_X12_breath_37 (by omega) ?_
      refine z_ild ((4 * i) + 2) d_X12_breath_38 (rput_a2 7 (t := 0) (n := 64) (F := ((plG g i) 7)) rfl rfl rfl (by decide) (by decide)) rfl (by omega) ?_
      refine z_aload_n d_X12_breath_39 rfl rfl ?_
      refine z_getf (v := qR (m + 11)) d_X12_breath_40 fl_X12_44 rput_o rfl ?_
      refine z_sipush d_X12_breath_43 (by decide) ?_
      refine z_ild 160 d_X12_breath_46 (rput_a2 11 (t := 0) (n := 167) (F := ((plG g i) 11)) rfl rfl rfl (by decide) (by decide)) rfl (by omega) ?_
      refine z_icmp_ge 84 d_X12_breath_47 (by decide) (fun q4 => ?_) (fun q4 => ?_)
      · refine z_iinc (ls' := [qR m, qI ((i : Int) + 1)]) d_X12_breath_84 rfl (by decide) (by omega) rfl ?_
        refine z_goto 2 d_X12_breath_87 (by decide) ?_
        exact z_eq (qc rfl (qc (qi (by omega)) rfl)) rfl (rput_cg rfl (show (plG g i) = qif (plQ (plG g i) i) _ _ by rw [qif_f (fun z9 => by first | exact q3 z9.1 | (have := z9.2; omega))])) (kki trivial)
      · refine z_aload_n d_X12_breath_50 rfl rfl ?_
        refine z_aload_n d_X12_breath_51 rfl rfl ?_
        refine z_getf (v := qR (m + 7)) d_X12_breath_52 fl_X12_32 rput_o rfl ?_
        refine z_iconst d_X12_breath_55 (by decide) ?_
        refine z_iload_n d_X12_breath_56 rfl rfl ?_
        refine z_imul d_X12_breath_57 (by omega) ?_
        refine z_iconst d_X12_breath_58 (by decide) ?_
        refine z_iadd d_X12_breath_59 (by omega) ?_
        refine z_ild ((4 * i) + 1) d_X12_breath_60 (rput_a2 7 (t := 0) (n := 64) (F := ((plG g i) 7)) rfl rfl rfl (by decide) (by decide)) rfl (by omega) ?_
        refine z_aload_n d_X12_breath_61 rfl rfl ?_
        refine z_getf (v := qR (m + 7)) d_X12_breath_62 fl_X12_32 rput_o rfl ?_
        refine z_iconst d_X12_breath_65 (by decide) ?_
        refine z_iload_n d_X12_breath_66 rfl rfl ?_
        refine z_imul d_X12_breath_67 (by omega) ?_
        refine z_iconst d_X12_breath_68 (by decide) ?_
        refine z_iadd d_X12_breath_69 (by omega) ?_
        refine z_ild ((4 * i) + 2) d_X12_breath_70 (rput_a2 7 (t := 0) (n := 64) (F := ((plG g i) 7)) rfl rfl rfl (by decide) (by decide)) rfl (by omega) ?_
        refine z_aload_n d_X12_breath_71 rfl rfl ?_
        refine z_getf (v := qR (m + 7)) d_X12_breath_72 fl_X12_32 rput_o rfl ?_
        refine z_iconst d_X12_breath_75 (by decide) ?_
        refine z_iload_n d_X12_breath_76 rfl rfl ?_
        refine z_imul d_X12_breath_77 (by omega) ?_
        refine z_iconst d_X12_breath_78 (by decide) ?_
        refine z_iadd d_X12_breath_79 (by omega) ?_
        refine z_ild ((4 * i) + 3) d_X12_breath_80 (rput_a2 7 (t := 0) (n := 64) (F := ((plG g i) 7)) rfl rfl rfl (by decide) (by decide)) rfl (by omega) ?_
        have hw9 : 0 ≤ (((plG g i) 7) ((4 * i) + 2)) ∧ (((plG g i) 7) ((4 * i) + 2)) ≤ 31 := by rw [hv7]; exact hd9.2
        have hk9 : 0 ≤ (((plG g i) 7) ((4 * i) + 1)) ∧ (((plG g i) 7) ((4 * i) + 1)) ≤ 5 := by rw [hv7]; exact hd9.1.1
        refine z_cv0 (M1 := M_X12_becomes) d_X12_breath_81 lv_X12_289 k_X12_becomes [qI (((plG g i) 7) ((4 * i) + 1)), qI (((plG g i) 7) ((4 * i) + 2)), qI (((plG g i) 7) ((4 * i) + 3))] rfl rfl rput_o ⟨_, _, rfl⟩ (Nat.le_of_ble_eq_true rfl) (by decide) (by decide) (Nat.le_of_ble_eq_true rfl) (by have hx9 := c_bec (h := h) (f := f) (g := (plG g i)) (m := m) (((plG g i) 7) ((4 * i) + 1)) (((plG g i) 7) ((4 * i) + 2)).toNat (((plG g i) 7) ((4 * i) + 3)) hm (by omega) (by omega) (by omega); rw [show (((((plG g i) 7) ((4 * i) + 2)).toNat : Nat) : Int) = (((plG g i) 7) ((4 * i) + 2)) by omega] at hx9; exact hx9) ?_
        refine z_iinc (ls' := [qR m, qI ((i : Int) + 1)]) d_X12_breath_84 rfl (by decide) (by omega) rfl ?_
        refine z_goto 2 d_X12_breath_87 (by decide) ?_
        exact z_eq (qc rfl (qc (qi (by omega)) rfl)) rfl (rput_cg rfl (show (becG (plG g i) (((plG g i) 7) ((4 * i) + 1)) (((plG g i) 7) ((4 * i) + 2)).toNat (((plG g i) 7) ((4 * i) + 3))) = qif (plQ (plG g i) i) _ _ by rw [qif_t ⟨by omega, by omega⟩])) (kki trivial)
  · show qEx M_X12_breath 2 [qR m, qI (pl : Int)] [] (rput h m f (plG g pl)) r hr
    obtain ⟨hv1, hv2, hv3⟩ := plG_inv hR hP pl (by omega)
    have hv6 := rw_at (a := 0) (b := 150) hv1 (j := 166) (by decide) rfl rfl
    have hv7 : (plG g pl) 7 = g 7 := hv3 7 (by decide) (by decide)
    have hp9 := rw_at (a := 0) (b := 319968) hv1 (j := 163) (by decide) rfl rfl
    have hc9 := cnt_bd (rdc ((plG g pl) 26) ((plG g pl) 11) n) n
    obtain ⟨gA, hgA⟩ : ∃ gA, gA = gup (gup (plG g pl) 29 (qmx n (rnx ((plG g pl) 25) ((plG g pl) 11) n) ((plG g pl) 29))) 11 (rmv ((plG g pl) 25) ((plG g pl) 11) n n) := ⟨_, rfl⟩
    refine z_iload_n d_X12_breath_2 rfl rfl ?_
    refine z_aload_n d_X12_breath_3 rfl rfl ?_
    refine z_getf (v := qI (f 18)) d_X12_breath_4 fl_X12_246 rput_o rfl ?_
    refine z_eq rfl (qc (qi hpl) rfl) rfl ?_
    refine z_icmp_ge 90 d_X12_breath_7 (by decide) (fun hc2 => ?_) (fun hc2 => absurd hc2 (by omega))
    refine z_aload_n d_X12_breath_90 rfl rfl ?_
    refine z_getf (v := qR (m + 11)) d_X12_breath_91 fl_X12_44 rput_o rfl ?_
    refine z_sipush d_X12_breath_94 (by decide) ?_
    refine z_dup2 d_X12_breath_97 rfl rfl ?_
    refine z_ild 163 d_X12_breath_98 (rput_a2 11 (t := 0) (n := 167) (F := ((plG g pl) 11)) rfl rfl rfl (by decide) (by decide)) rfl (by omega) ?_
    refine z_aload_n d_X12_breath_99 rfl rfl ?_
    refine z_aload_n d_X12_breath_100 rfl rfl ?_
    refine z_getf (v := qR (m + 11)) d_X12_breath_101 fl_X12_44 rput_o rfl ?_
    refine z_cv (M1 := M_X12_goesOn) d_X12_breath_104 lv_X12_299 k_X12_goesOn [qR (m + 11)] rfl rfl rput_o ⟨_, _, rfl⟩ (Nat.le_of_ble_eq_true rfl) (by decide) (by decide) (Nat.le_of_ble_eq_true rfl) (by have hx9 := c_goesOn11 (h := h) (f := f) (g := (plG g pl)) (n := n) hm (by rw [hv2 160 (by decide) (by decide)]; exact hN) hn (fun k hk => rw_m hv1 (by omega)) (fun k hk => rw_m hv1 (by omega)); rw [← hgA] at hx9; exact hx9) ?_
    refine z_iadd d_X12_breath_107 (by omega) ?_
    refine z_ist 163 d_X12_breath_108 (rput_a2 11 (t := 0) (n := 167) (F := (gA 11)) rfl rfl rfl (by decide) (by decide)) (by omega) rfl (by omega) ?_
    refine z_eq rfl rfl (rput_sa 11 rfl rfl (by decide) (by decide)) ?_
    obtain ⟨g2, hg2⟩ : ∃ g2, g2 = goG n (plG g pl) := ⟨_, rfl⟩
    refine z_eq rfl rfl (show (rput h m f (gup gA 11 (qup (gA 11) 163 ((((plG g pl) 11) 163) + (cnt (rdc ((plG g pl) 26) ((plG g pl) 11) n) n))))) = rput h m f g2 from rput_cg rfl (by rw [hg2, hgA]; unfold goG; rw [gup_gup, gup_eq])) ?_
    obtain ⟨ho1, ho2⟩ := goG_ok (n := n) hn hv1 (by rw [hv2 162 (by decide) (by decide)]; exact hb) (fun c hc => by rw [hv3 25 (by decide) (by decide)]; exact hT c hc)
    rw [← hg2] at ho1 ho2
    have hn2 : g2 11 160 = (n : Int) := by rw [hg2, goG_hi hn (by decide) (by decide), hv2 160 (by decide) (by decide)]; exact hN
    have hg6 : 0 ≤ g2 11 166 ∧ g2 11 166 ≤ 150 := ho1 166 (by decide)
    have hg3 : 0 ≤ g2 11 162 ∧ g2 11 162 ≤ 9998 := by have := rw_at (a := 0) (b := 9999) hR (j := 162) (by decide) rfl rfl; rw [hg2, goG_hi hn (by decide) (by decide), hv2 162 (by decide) (by decide)]; omega
    have hcl := cnt_bd (fun q9 => g2 11 q9 = 7) n
    refine z_aload_n d_X12_breath_109 rfl rfl ?_
    refine z_getf (v := qR (m + 11)) d_X12_breath_110 fl_X12_44 rput_o rfl ?_
    refine z_aload_n d_X12_breath_113 rfl rfl ?_
    refine z_getf (v := qR (m + 11)) d_X12_breath_114 fl_X12_44 rput_o rfl ?_
    refine z_sipush d_X12_breath_117 (by decide) ?_
    refine z_ild 160 d_X12_breath_120 (rput_a2 11 (t := 0) (n := 167) (F := (g2 11)) rfl rfl rfl (by decide) (by decide)) rfl (by omega) ?_
    refine z_eq rfl (qc (qi hn2) rfl) rfl ?_
    refine z_cs (M1 := M_X12_litIn) d_X12_breath_121 ls_X12_302 k_X12_litIn [qR (m + 11), qI (n : Int)] rfl rfl (Nat.le_of_ble_eq_true rfl) (by decide) (by decide) (Nat.le_of_ble_eq_true rfl) (c_litIn n (rput_a2 11 (t := 0) (n := 167) (F := (g2 11)) rfl rfl rfl (by decide) (by decide)) (by omega) (by decide)) ?_
    refine z_istore_n (ls' := [qR m, qI (cnt (fun q9 => (g2 11) q9 = 7) n)]) d_X12_breath_124 rfl (by decide) rfl ?_
    refine z_aload_n d_X12_breath_125 rfl rfl ?_
    refine z_getf (v := qR (m + 11)) d_X12_breath_126 fl_X12_44 rput_o rfl ?_
    refine z_sipush d_X12_breath_129 (by decide) ?_
    refine z_ild 164 d_X12_breath_132 (rput_a2 11 (t := 0) (n := 167) (F := (g2 11)) rfl rfl rfl (by decide) (by decide)) rfl (by omega) ?_
    refine z_iconst d_X12_breath_133 (by decide) ?_
    refine z_icmp_ne 189 d_X12_breath_134 (by decide) (fun q1 => ?_) (fun q1 => ?_)
    · obtain ⟨g3, hg3e⟩ : ∃ g3, g3 = (ffG n g2) := ⟨_, rfl⟩
      have hg3b : g3 11 162 = g2 11 162 := by rw [hg3e, ffG_at (by decide) (by decide) (by decide)]
      refine z_eq rfl rfl (show (rput h m f g2) = rput h m f g3 from rput_cg rfl (hg3e.trans (by unfold ffG; rw [qif_f (fun z9 => by first | exact q1 z9.1 | (have := z9.2; omega))])).symm) ?_
      refine z_aload_n d_X12_breath_189 rfl rfl ?_
      refine z_getf (v := qR (m + 11)) d_X12_breath_190 fl_X12_44 rput_o rfl ?_
      refine z_sipush d_X12_breath_193 (by decide) ?_
      refine z_dup2 d_X12_breath_196 rfl rfl ?_
      refine z_ild 162 d_X12_breath_197 (rput_a2 11 (t := 0) (n := 167) (F := (g3 11)) rfl rfl rfl (by decide) (by decide)) rfl (by omega) ?_
      refine z_iconst d_X12_breath_198 (by decide) ?_
      refine z_iadd d_X12_breath_199 (by omega) ?_
      refine z_ist 162 d_X12_breath_200 (rput_a2 11 (t := 0) (n := 167) (F := (g3 11)) rfl rfl rfl (by decide) (by decide)) (by omega) rfl (by omega) ?_
      refine z_eq rfl rfl (rput_sa 11 rfl rfl (by decide) (by decide)) ?_
      exact z_vret d_X12_breath_201 rfl er (eh.trans (rput_cg rfl (by unfold brG; rw [← hg2, ← hg3e]; rfl)))
    · refine z_iload_n d_X12_breath_137 rfl rfl ?_
      refine z_if_le 189 d_X12_breath_138 (by decide) (fun q2 => ?_) (fun q2 => ?_)
      · obtain ⟨g3, hg3e⟩ : ∃ g3, g3 = (ffG n g2) := ⟨_, rfl⟩
        have hg3b : g3 11 162 = g2 11 162 := by rw [hg3e, ffG_at (by decide) (by decide) (by decide)]
        refine z_eq rfl rfl (show (rput h m f g2) = rput h m f g3 from rput_cg rfl (hg3e.trans (by unfold ffG; rw [qif_f (fun z9 => by first | exact q1 z9.1 | (have := z9.2; omega))])).symm) ?_
        refine z_aload_n d_X12_breath_189 rfl rfl ?_
        refine z_getf (v := qR (m + 11)) d_X12_breath_190 fl_X12_44 rput_o rfl ?_
        refine z_sipush d_X12_breath_193 (by decide) ?_
        refine z_dup2 d_X12_breath_196 rfl rfl ?_
        refine z_ild 162 d_X12_breath_197 (rput_a2 11 (t := 0) (n := 167) (F := (g3 11)) rfl rfl rfl (by decide) (by decide)) rfl (by omega) ?_
        refine z_iconst d_X12_breath_198 (by decide) ?_
        refine z_iadd d_X12_breath_199 (by omega) ?_
        refine z_ist 162 d_X12_breath_200 (rput_a2 11 (t := 0) (n := 167) (F := (g3 11)) rfl rfl rfl (by decide) (by decide)) (by omega) rfl (by omega) ?_
        refine z_eq rfl rfl (rput_sa 11 rfl rfl (by decide) (by decide)) ?_
        exact z_vret d_X12_breath_201 rfl er (eh.trans (rput_cg rfl (by unfold brG; rw [← hg2, ← hg3e]; rfl)))
      · refine z_aload_n d_X12_breath_141 rfl rfl ?_
        refine z_getf (v := qR (m + 11)) d_X12_breath_142 fl_X12_44 rput_o rfl ?_
        refine z_sipush d_X12_breath_145 (by decide) ?_
        refine z_aload_n d_X12_breath_148 rfl rfl ?_
        refine z_getf (v := qR (m + 11)) d_X12_breath_149 fl_X12_44 rput_o rfl ?_
        refine z_sipush d_X12_breath_152 (by decide) ?_
        refine z_ild 162 d_X12_breath_155 (rput_a2 11 (t := 0) (n := 167) (F := (g2 11)) rfl rfl rfl (by decide) (by decide)) rfl (by omega) ?_
        refine z_ist 164 d_X12_breath_156 (rput_a2 11 (t := 0) (n := 167) (F := (g2 11)) rfl rfl rfl (by decide) (by decide)) (by omega) rfl (by omega) ?_
        refine z_eq rfl rfl (rput_sa 11 rfl rfl (by decide) (by decide)) ?_
        refine z_aload_n d_X12_breath_157 rfl rfl ?_
        refine z_getf (v := qR (m + 11)) d_X12_breath_158 fl_X12_44 rput_o rfl ?_
        refine z_sipush d_X12_breath_161 (by decide) ?_
        refine z_iload_n d_X12_breath_164 rfl rfl ?_
        refine z_ist 165 d_X12_breath_165 (rput_a2 11 (t := 0) (n := 167) (F := (qup (g2 11) 164 ((g2 11) 162))) rfl rfl rfl (by decide) (by decide)) (by omega) rfl (by omega) ?_
        refine z_eq rfl rfl ((rput_sa 11 rfl rfl (by decide) (by decide)).trans (rput_cg rfl (gup_gup _ _ _))) ?_
        refine z_aload_n d_X12_breath_166 rfl rfl ?_
        refine z_bipush d_X12_breath_167 (by decide) ?_
        refine z_aload_n d_X12_breath_169 rfl rfl ?_
        refine z_getf (v := qR (m + 11)) d_X12_breath_170 fl_X12_44 rput_o rfl ?_
        refine z_aload_n d_X12_breath_173 rfl rfl ?_
        refine z_getf (v := qR (m + 11)) d_X12_breath_174 fl_X12_44 rput_o rfl ?_
        refine z_sipush d_X12_breath_177 (by decide) ?_
        refine z_ild 160 d_X12_breath_180 (rput_a2 11 (t := 0) (n := 167) (F := (qup (qup (g2 11) 164 ((g2 11) 162)) 165 (cnt (fun q9 => (g2 11) q9 = 7) n))) rfl rfl rfl (by decide) (by decide)) rfl (by omega) ?_
        refine z_eq rfl (qc (qi (show ((qup (qup (g2 11) 164 ((g2 11) 162)) 165 (cnt (fun q9 => (g2 11) q9 = 7) n)) 160) = (n : Int) from by rw [qup_ne (by decide), qup_ne (by decide)]; exact hn2)) rfl) rfl ?_
        refine z_iconst d_X12_breath_181 (by decide) ?_
        refine z_cs (M1 := M_X12_firstOf) d_X12_breath_182 ls_X12_306 k_X12_firstOf [qR (m + 11), qI (n : Int), qI 1] rfl rfl (Nat.le_of_ble_eq_true rfl) (by decide) (by decide) (Nat.le_of_ble_eq_true rfl) (c_firstLit n (rput_a2 11 (t := 0) (n := 167) (F := (qup (qup (g2 11) 164 ((g2 11) 162)) 165 (cnt (fun q9 => (g2 11) q9 = 7) n))) rfl rfl rfl (by decide) (by decide)) (by omega) (by decide)) ?_
        refine z_eq rfl (qc (qi (show (fst (fun q9 => (qup (qup (g2 11) 164 ((g2 11) 162)) 165 (cnt (fun q9 => (g2 11) q9 = 7) n)) q9 = 7) n) = (fst (fun q9 => (g2 11) q9 = 7) n) from fst_congr (fun k hk => by rw [qup_ne (by omega), qup_ne (by omega)]))) rfl) rfl ?_
        refine z_iload_n d_X12_breath_185 rfl rfl ?_
        refine z_cv0 (M1 := M_X12_logs) d_X12_breath_186 lv_X12_282 k_X12_logs [qI 6, qI (fst (fun q9 => (g2 11) q9 = 7) n), qI (cnt (fun q9 => (g2 11) q9 = 7) n)] rfl rfl rput_o ⟨_, _, rfl⟩ (Nat.le_of_ble_eq_true rfl) (by decide) (by decide) (Nat.le_of_ble_eq_true rfl) (c_logs (h := h) (f := f) (g := (gup g2 11 (qup (qup (g2 11) 164 ((g2 11) 162)) 165 (cnt (fun q9 => (g2 11) q9 = 7) n)))) (L := (g2 11 166).toNat) 6 (fst (fun q9 => (g2 11) q9 = 7) n) (cnt (fun q9 => (g2 11) q9 = 7) n) hm (by rw [gup_eq, qup_ne (by decide), qup_ne (by decide)]; omega) (by omega)) ?_
        obtain ⟨g3, hg3e⟩ : ∃ g3, g3 = (ffG n g2) := ⟨_, rfl⟩
        have hg3b : g3 11 162 = g2 11 162 := by rw [hg3e, ffG_at (by decide) (by decide) (by decide)]
        refine z_eq rfl rfl (show (rput h m f (logG (gup g2 11 (qup (qup (g2 11) 164 ((g2 11) 162)) 165 (cnt (fun q9 => (g2 11) q9 = 7) n))) 6 (fst (fun q9 => (g2 11) q9 = 7) n) (cnt (fun q9 => (g2 11) q9 = 7) n))) = rput h m f g3 from rput_cg rfl (hg3e.trans (by unfold ffG; rw [qif_t ⟨by omega, by omega⟩])).symm) ?_
        refine z_aload_n d_X12_breath_189 rfl rfl ?_
        refine z_getf (v := qR (m + 11)) d_X12_breath_190 fl_X12_44 rput_o rfl ?_
        refine z_sipush d_X12_breath_193 (by decide) ?_
        refine z_dup2 d_X12_breath_196 rfl rfl ?_
        refine z_ild 162 d_X12_breath_197 (rput_a2 11 (t := 0) (n := 167) (F := (g3 11)) rfl rfl rfl (by decide) (by decide)) rfl (by omega) ?_
        refine z_iconst d_X12_breath_198 (by decide) ?_
        refine z_iadd d_X12_breath_199 (by omega) ?_
        refine z_ist 162 d_X12_breath_200 (rput_a2 11 (t := 0) (n := 167) (F := (g3 11)) rfl rfl rfl (by decide) (by decide)) (by omega) rfl (by omega) ?_
        refine z_eq rfl rfl (rput_sa 11 rfl rfl (by decide) (by decide)) ?_
        exact z_vret d_X12_breath_201 rfl er (eh.trans (rput_cg rfl (by unfold brG; rw [← hg2, ← hg3e]; rfl)))
/-- breaths: what can be undone is kept ahead of each -/
noncomputable def kbI (f : Nat → Int) : Nat → Nat → Int
  | 0 => f
  | k + 1 => kbF (kbI f k)
noncomputable def bsG (n pl : Nat) (f : Nat → Int) (g : Nat → Nat → Int) : Nat → Nat → Nat → Int
  | 0 => g
  | k + 1 => brG n pl (kbG (kbI f k) (bsG n pl f g k))
theorem kbF_25 {f : Nat → Int} (h : 0 ≤ f 25 ∧ f 25 ≤ 6) : 0 ≤ kbF f 25 ∧ kbF f 25 ≤ 6 := by
  unfold kbF
  split
  · rw [qup_eq]; omega
  · rw [qup_eq]; omega
theorem kbI_ne {f : Nat → Int} {j : Nat} (hj : j ≠ 25) : ∀ k, kbI f k j = f j
  | 0 => rfl
  | k + 1 => (kbF_ne hj).trans (kbI_ne hj k)
theorem kbI_25 {f : Nat → Int} (h : 0 ≤ f 25 ∧ f 25 ≤ 6) : ∀ k, 0 ≤ kbI f k 25 ∧ kbI f k 25 ≤ 6
  | 0 => h
  | k + 1 => kbF_25 (kbI_25 h k)
theorem bsG_inv {n pl : Nat} {f : Nat → Int} {g : Nat → Nat → Int} {c : Nat} (hn : n ≤ 32) (h : rwOk (g 11)) (hP : plOk (g 7) pl) (hb : g 11 162 + c ≤ 9999) (hT : ∀ c, c < 648 → 0 ≤ g 25 c ∧ g 25 c ≤ 7) : ∀ k, k ≤ c → rwOk (bsG n pl f g k 11) ∧ bsG n pl f g k 11 162 = g 11 162 + k ∧ (∀ j, 160 ≤ j → j ≤ 161 → bsG n pl f g k 11 j = g 11 j) ∧ ∀ j, j ≠ 11 → j ≠ 13 → j ≠ 29 → j ≠ 14 → bsG n pl f g k j = g j
  | 0, _ => ⟨h, by show g 11 162 = g 11 162 + ((0 : Nat) : Int); omega, fun _ _ _ => rfl, fun _ _ _ _ _ => rfl⟩
  | k + 1, hk => by
    obtain ⟨a, b, d, e⟩ := bsG_inv hn h hP hb hT k (by omega)
    have e11 : kbG (kbI f k) (bsG n pl f g k) 11 = bsG n pl f g k 11 := kbG_ne (by decide)
    have e7 : kbG (kbI f k) (bsG n pl f g k) 7 = g 7 := (kbG_ne (by decide)).trans (e 7 (by decide) (by decide) (by decide) (by decide))
    have e25 : kbG (kbI f k) (bsG n pl f g k) 25 = g 25 := (kbG_ne (by decide)).trans (e 25 (by decide) (by decide) (by decide) (by decide))
    obtain ⟨p, q, r, s⟩ := brG_ok (n := n) (pl := pl) (g := kbG (kbI f k) (bsG n pl f g k)) hn (by rw [e11]; exact a) (by rw [e7]; exact hP) (by rw [e11, b]; omega) (by rw [e25]; exact hT)
    refine ⟨p, ?_, fun j h1 h2 => ?_, fun j h1 h2 h3 h4 => ?_⟩
    · rw [show bsG n pl f g (k + 1) = brG n pl (kbG (kbI f k) (bsG n pl f g k)) from rfl, q, e11, b]; omega
    · rw [show bsG n pl f g (k + 1) = brG n pl (kbG (kbI f k) (bsG n pl f g k)) from rfl, r j h1 h2, e11]; exact d j h1 h2
    · rw [show bsG n pl f g (k + 1) = brG n pl (kbG (kbI f k) (bsG n pl f g k)) from rfl, s j h1 h2 h3, kbG_ne h4]; exact e j h1 h2 h3 h4
set_option maxRecDepth 20000 in
set_option maxHeartbeats 4000000 in
theorem c_breaths {h : qH} {m : Nat} {f : Nat → Int} {g : Nat → Nat → Int} {n pl c : Nat} (hm : 2 ≤ m) (h0 : f 0 = 0) (hN : g 11 160 = (n : Int)) (hpl : f 18 = (pl : Int)) (hR : rwOk (g 11)) (hP : plOk (g 7) pl) (hb : g 11 162 + c ≤ 9999) (hc : 1 ≤ c ∧ c ≤ 60) (hbk : 0 ≤ f 25 ∧ f 25 ≤ 6) (hO : bkOk (g 2) (g 5)) : qEx M_X12_breaths 0 [qR m, qI (c : Int), qU] [] (rput h m f g) (some (qI (cnt (fun k => (bsG n pl f (layG g) c) 11 k = 7) n))) (rput h m (kbI f c) (bsG n pl f (layG g) c)) := by
  refine q_gen (fun r hr er eh => ?_)
  have hn : n ≤ 32 := by have := rw_at (a := 0) (b := 32) hR (j := 160) (by decide) rfl rfl; omega
  have h162 := rw_at (a := 0) (b := 9999) hR (j := 162) (by decide) rfl rfl
  have hR1 : rwOk (layG g 11) := hR
  have hP1 : plOk (layG g 7) pl := hP
  have hb1 : layG g 11 162 + c ≤ 9999 := hb
  have hT1 : ∀ c, c < 648 → 0 ≤ layG g 25 c ∧ layG g 25 c ≤ 7 := fun c hc => by rw [layG_T hc]; exact ownT_bd hO c hc
  refine z_aload_n d_X12_breaths_0 rfl rfl ?_
  refine z_iconst d_X12_breaths_1 (by decide) ?_
  refine z_putf (fs' := [qI 0, qI (f 1), qI (f 2), qI (f 3), qI (f 4), qI (f 5), qI (f 6), qI (f 7), qR (m + 1), qR (m + 2), qR (m + 3), qR (m + 4), qR (m + 5), qR (m + 6), qR (m + 7), qR (m + 8), qR (m + 9), qR (m + 10), qI (f 18), qI (f 19), qI (f 20), qR (m + 11), qR (m + 12), qR (m + 13), qR (m + 14), qI (f 25), qR (m + 15), qI (f 27), qR (m + 16), qR (m + 17), qR (m + 18), qR (m + 19), qR (m + 20), qR (m + 21), qR (m + 22), qR (m + 23), qR (m + 24), qI (f 37), qI (f 38), qI (f 39), qI (f 40), qR (m + 25), qR (m + 26), qR (m + 27), qR (m + 28), qR (m + 29), qR (m + 30), qR (m + 31), qI (f 48), qR (m + 32), qR (m + 33), qR (m + 34), qR (m + 35), qR (m + 36), qR (m + 37)]) d_X12_breaths_2 fp_X12_127 rput_o (fun _ => rfl) (fun _ => rfl) (Nat.le_of_ble_eq_true rfl) rfl ?_
  refine z_eq rfl rfl ((rput_sf (f' := qup f 0 0) rfl).trans (rput_cg (qup_self h0) rfl)) ?_
  refine z_iload_n d_X12_breaths_5 rfl rfl ?_
  refine z_iconst d_X12_breaths_6 (by decide) ?_
  refine z_bipush d_X12_breaths_7 (by decide) ?_
  refine z_cs (M1 := M_X12_in) d_X12_breaths_9 ls_X12_137 k_X12_in [qI (c : Int), qI 1, qI 60] rfl rfl (Nat.le_of_ble_eq_true rfl) (by decide) (by decide) (Nat.le_of_ble_eq_true rfl) (c_in (c : Int) 1 60) ?_
  refine z_ifeqB 31 d_X12_breaths_12 (by decide) (fun hc1 => absurd hc1 (by omega)) (fun hc1 => ?_)
  refine z_aload_n d_X12_breaths_15 rfl rfl ?_
  refine z_getf (v := qR (m + 11)) d_X12_breaths_16 fl_X12_44 rput_o rfl ?_
  refine z_sipush d_X12_breaths_19 (by decide) ?_
  refine z_ild 162 d_X12_breaths_22 (rput_a2 11 (t := 0) (n := 167) (F := (g 11)) rfl rfl rfl (by decide) (by decide)) rfl (by omega) ?_
  refine z_iload_n d_X12_breaths_23 rfl rfl ?_
  refine z_iadd d_X12_breaths_24 (by omega) ?_
  refine z_sipush d_X12_breaths_25 (by decide) ?_
  refine z_icmp_le 33 d_X12_breaths_28 (by decide) (fun hc2 => ?_) (fun hc2 => absurd hc2 (by omega))
  refine z_aload_n d_X12_breaths_33 rfl rfl ?_
  refine z_cv0 (M1 := M_X12_laysOwn) d_X12_breaths_34 lv_X12_275 k_X12_laysOwn [] rfl rfl rput_o ⟨_, _, rfl⟩ (Nat.le_of_ble_eq_true rfl) (by decide) (by decide) (Nat.le_of_ble_eq_true rfl) (c_laysOwn (h := h) (f := f) (g := g) hm) ?_
  refine z_iconst d_X12_breaths_37 (by decide) ?_
  refine z_istore_n (ls' := [qR m, qI (c : Int), qI 0]) d_X12_breaths_38 rfl (by decide) rfl ?_
  refine z_eq (qc rfl (qc rfl (qc (qi (by omega)) rfl))) rfl rfl (z_for c (fun i => [qR m, qI (c : Int), qI (i : Int)]) (fun i => (rput h m (kbI f i) (bsG n pl f (layG g) i))) (fun i => True) trivial (fun i hii hp kki => ?_) (fun hp => ?_))
  · show qEx M_X12_breaths 39 [qR m, qI (c : Int), qI (i : Int)] [] (rput h m (kbI f i) (bsG n pl f (layG g) i)) r hr
    refine z_iload_n d_X12_breaths_39 rfl rfl ?_
    refine z_iload_n d_X12_breaths_40 rfl rfl ?_
    refine z_icmp_ge 58 d_X12_breaths_41 (by decide) (fun hc3 => absurd hc3 (by omega)) (fun hc3 => ?_)
    refine z_aload_n d_X12_breaths_44 rfl rfl ?_
    refine z_cv0 (M1 := M_X12_keepsBack) d_X12_breaths_45 lv_X12_286 k_X12_keepsBack [] rfl rfl rput_o ⟨_, _, rfl⟩ (Nat.le_of_ble_eq_true rfl) (by decide) (by decide) (Nat.le_of_ble_eq_true rfl) (c_kb (h := h) (f := (kbI f i)) (g := (bsG n pl f (layG g) i)) hm (kbI_25 hbk i)) ?_
    refine z_aload_n d_X12_breaths_48 rfl rfl ?_
    obtain ⟨hv1, hv2, hv3, hv4⟩ := bsG_inv (f := f) hn hR1 hP1 hb1 hT1 i (by omega)
    have e11 : (kbG (kbI f i) (bsG n pl f (layG g) i)) 11 = (bsG n pl f (layG g) i) 11 := kbG_ne (by decide)
    have e7 : (kbG (kbI f i) (bsG n pl f (layG g) i)) 7 = g 7 := (kbG_ne (by decide)).trans (hv4 7 (by decide) (by decide) (by decide) (by decide))
    have e25 : (kbG (kbI f i) (bsG n pl f (layG g) i)) 25 = layG g 25 := (kbG_ne (by decide)).trans (hv4 25 (by decide) (by decide) (by decide) (by decide))
    refine z_cv0 (M1 := M_X12_breath) d_X12_breaths_49 lv_X12_310 k_X12_breath [] rfl rfl rput_o ⟨_, _, rfl⟩ (Nat.le_of_ble_eq_true rfl) (by decide) (by decide) (Nat.le_of_ble_eq_true rfl) (c_breath (h := h) (f := (kbI f (i + 1))) (g := (kbG (kbI f i) (bsG n pl f (layG g) i))) (n := n) (pl := pl) hm (by rw [e11, hv3 160 (by decide) (by decide)]; exact hN) (by rw [kbI_ne (by decide)]; exact hpl) (by rw [e11]; exact hv1) (by rw [e7]; exact hP) (by rw [e11, hv2]; show g 11 162 + _ ≤ _; omega) (by rw [e25]; exact hT1)) ?_
    refine z_iinc (ls' := [qR m, qI (c : Int), qI ((i : Int) + 1)]) d_X12_breaths_52 rfl (by decide) (by omega) rfl ?_
    refine z_goto 39 d_X12_breaths_55 (by decide) ?_
    exact z_eq (qc rfl (qc rfl (qc (qi (by omega)) rfl))) rfl rfl (kki trivial)
  · show qEx M_X12_breaths 39 [qR m, qI (c : Int), qI (c : Int)] [] (rput h m (kbI f c) (bsG n pl f (layG g) c)) r hr
    obtain ⟨hv1, hv2, hv3, hv4⟩ := bsG_inv (f := f) hn hR1 hP1 hb1 hT1 c (by omega)
    refine z_iload_n d_X12_breaths_39 rfl rfl ?_
    refine z_iload_n d_X12_breaths_40 rfl rfl ?_
    refine z_icmp_ge 58 d_X12_breaths_41 (by decide) (fun hc4 => ?_) (fun hc4 => absurd hc4 (by omega))
    refine z_aload_n d_X12_breaths_58 rfl rfl ?_
    refine z_getf (v := qR (m + 11)) d_X12_breaths_59 fl_X12_44 rput_o rfl ?_
    refine z_aload_n d_X12_breaths_62 rfl rfl ?_
    refine z_getf (v := qR (m + 11)) d_X12_breaths_63 fl_X12_44 rput_o rfl ?_
    refine z_sipush d_X12_breaths_66 (by decide) ?_
    refine z_ild 160 d_X12_breaths_69 (rput_a2 11 (t := 0) (n := 167) (F := ((bsG n pl f (layG g) c) 11)) rfl rfl rfl (by decide) (by decide)) rfl (by omega) ?_
    refine z_eq rfl (qc (qi (show (bsG n pl f (layG g) c) 11 160 = (n : Int) by rw [hv3 160 (by decide) (by decide)]; exact hN)) rfl) rfl ?_
    refine z_cs (M1 := M_X12_litIn) d_X12_breaths_70 ls_X12_302 k_X12_litIn [qR (m + 11), qI (n : Int)] rfl rfl (Nat.le_of_ble_eq_true rfl) (by decide) (by decide) (Nat.le_of_ble_eq_true rfl) (c_litIn n (rput_a2 11 (t := 0) (n := 167) (F := ((bsG n pl f (layG g) c) 11)) rfl rfl rfl (by decide) (by decide)) (by omega) (by decide)) ?_
    exact z_iret d_X12_breaths_73 rfl er eh
set_option maxRecDepth 20000 in
set_option maxHeartbeats 4000000 in
theorem c_breaths_no {h : qH} {m : Nat} {f : Nat → Int} {g : Nat → Nat → Int} (c : Int) (hm : 2 ≤ m) (h0 : f 0 = 0) (hcR : R32 c) (hb : 0 ≤ g 11 162 ∧ g 11 162 ≤ 9999) (hno : ¬ ((1 ≤ c ∧ c ≤ 60) ∧ g 11 162 + c ≤ 9999)) : qEx M_X12_breaths 0 [qR m, qI c, qU] [] (rput h m f g) (some (qI (-1))) (rput h m f g) := by
  refine q_gen (fun r hr er eh => ?_)
  refine z_aload_n d_X12_breaths_0 rfl rfl ?_
  refine z_iconst d_X12_breaths_1 (by decide) ?_
  refine z_putf (fs' := [qI 0, qI (f 1), qI (f 2), qI (f 3), qI (f 4), qI (f 5), qI (f 6), qI (f 7), qR (m + 1), qR (m + 2), qR (m + 3), qR (m + 4), qR (m + 5), qR (m + 6), qR (m + 7), qR (m + 8), qR (m + 9), qR (m + 10), qI (f 18), qI (f 19), qI (f 20), qR (m + 11), qR (m + 12), qR (m + 13), qR (m + 14), qI (f 25), qR (m + 15), qI (f 27), qR (m + 16), qR (m + 17), qR (m + 18), qR (m + 19), qR (m + 20), qR (m + 21), qR (m + 22), qR (m + 23), qR (m + 24), qI (f 37), qI (f 38), qI (f 39), qI (f 40), qR (m + 25), qR (m + 26), qR (m + 27), qR (m + 28), qR (m + 29), qR (m + 30), qR (m + 31), qI (f 48), qR (m + 32), qR (m + 33), qR (m + 34), qR (m + 35), qR (m + 36), qR (m + 37)]) d_X12_breaths_2 fp_X12_127 rput_o (fun _ => rfl) (fun _ => rfl) (Nat.le_of_ble_eq_true rfl) rfl ?_
  refine z_eq rfl rfl ((rput_sf (f' := qup f 0 0) rfl).trans (rput_cg (qup_self h0) rfl)) ?_
  refine z_iload_n d_X12_breaths_5 rfl rfl ?_
  refine z_iconst d_X12_breaths_6 (by decide) ?_
  refine z_bipush d_X12_breaths_7 (by decide) ?_
  refine z_cs (M1 := M_X12_in) d_X12_breaths_9 ls_X12_137 k_X12_in [qI c, qI 1, qI 60] rfl rfl (Nat.le_of_ble_eq_true rfl) (by decide) (by decide) (Nat.le_of_ble_eq_true rfl) (c_in c 1 60) ?_
  refine z_ifeqB 31 d_X12_breaths_12 (by decide) (fun hc1 => ?_) (fun hc1 => ?_)
  · refine z_iconst d_X12_breaths_31 (by decide) ?_
    exact z_iret d_X12_breaths_32 rfl er eh
  · refine z_aload_n d_X12_breaths_15 rfl rfl ?_
    refine z_getf (v := qR (m + 11)) d_X12_breaths_16 fl_X12_44 rput_o rfl ?_
    refine z_sipush d_X12_breaths_19 (by decide) ?_
    refine z_ild 162 d_X12_breaths_22 (rput_a2 11 (t := 0) (n := 167) (F := (g 11)) rfl rfl rfl (by decide) (by decide)) rfl (by omega) ?_
    refine z_iload_n d_X12_breaths_23 rfl rfl ?_
    refine z_iadd d_X12_breaths_24 (by omega) ?_
    refine z_sipush d_X12_breaths_25 (by decide) ?_
    refine z_icmp_le 33 d_X12_breaths_28 (by decide) (fun hc2 => ?_) (fun hc2 => ?_)
    · exact absurd (by omega) hno
    · refine z_iconst d_X12_breaths_31 (by decide) ?_
      exact z_iret d_X12_breaths_32 rfl er eh
