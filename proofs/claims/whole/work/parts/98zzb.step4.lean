/-! ===== STEPS, fourth batch ===== -/
theorem sm_cg {p q : Nat → Int} : ∀ {n : Nat}, (∀ k, k < n → p k = q k) → sm p n = sm q n
  | 0, _ => rfl
  | n + 1, h => by
    show sm p n + p n = sm q n + q n
    rw [sm_cg (fun k hk => h k (by omega)), h n (by omega)]
theorem log_mono {g : Nat → Nat → Int} {a b c : Int} : g 11 166 ≤ logG g a b c 11 166 := by
  rw [logG_11]
  split
  · exact Int.le_refl _
  · rw [qup_eq]; omega
theorem bec_mono {g : Nat → Nat → Int} {what v : Int} {who : Nat} (hw : who < 32) : g 11 166 ≤ becG g what who v 11 166 := by
  have := log_mono (g := gup g 11 (becA what who v (g 11))) (a := what) (b := (who : Int)) (c := becV what v)
  rw [gup_eq, becA_hi hw (by decide)] at this
  exact this
theorem pl_mono {g : Nat → Nat → Int} {pl : Nat} (h : rwOk (g 11)) (hP : plOk (g 7) pl) : ∀ i, i ≤ pl → g 11 166 ≤ plG g i 11 166
  | 0, _ => Int.le_refl _
  | i + 1, hi => by
    have ih := pl_mono h hP i (by omega)
    have hb := (hP.2 i (by omega)).2
    have e7 : plG g i 7 = g 7 := (plG_inv h hP i (by omega)).2.2 7 (by decide) (by decide)
    show _ ≤ (qif (plQ (plG g i) i) (becG (plG g i) (plG g i 7 (4 * i + 1)) (plG g i 7 (4 * i + 2)).toNat (plG g i 7 (4 * i + 3))) (plG g i)) 11 166
    by_cases z : plQ (plG g i) i
    · rw [qif_t z]
      exact Int.le_trans ih (bec_mono (by rw [e7]; omega))
    · rw [qif_f z]
      exact ih
theorem ff_mono {n : Nat} {g : Nat → Nat → Int} : g 11 166 ≤ ffG n g 11 166 := by
  unfold ffG
  by_cases z : g 11 164 = -1 ∧ cnt (fun k => g 11 k = 7) n > 0
  · rw [qif_t z]
    have := log_mono (g := gup g 11 (qup (qup (g 11) 164 (g 11 162)) 165 (cnt (fun k => g 11 k = 7) n))) (a := 6) (b := fst (fun k => g 11 k = 7) n) (c := cnt (fun k => g 11 k = 7) n)
    rw [gup_eq, qup_ne (by decide), qup_ne (by decide)] at this
    exact this
  · rw [qif_f z]
    exact Int.le_refl _
theorem br_mono {n pl : Nat} {g : Nat → Nat → Int} (hn : n ≤ 32) (h : rwOk (g 11)) (hP : plOk (g 7) pl) : g 11 166 ≤ brG n pl g 11 166 := by
  have h1 := pl_mono h hP pl (Nat.le_refl _)
  have h2 : goG n (plG g pl) 11 166 = plG g pl 11 166 := goG_hi hn (by decide) (by decide)
  have h3 := ff_mono (n := n) (g := goG n (plG g pl))
  unfold brG tkG
  rw [gup_eq, qup_ne (by decide)]
  omega
/-- what can be undone -/
def pInv (f : Nat → Int) (g : Nat → Nat → Int) (b : Nat) : Prop := (f 25 = (b : Int) ∧ b ≤ 6) ∧ (∀ t, t < b → rwOk (bkN g t)) ∧ (∀ t, t + 1 < b → bkN g t 166 ≤ bkN g (t + 1) 166) ∧ (0 < b → bkN g (b - 1) 166 ≤ g 11 166)
theorem pv_kb {f : Nat → Int} {g : Nat → Nat → Int} {b : Nat} (h : pInv f g b) (hO : rwOk (g 11)) : pInv (kbF f) (kbG f g) (if b = 6 then 6 else b + 1) := by
  obtain ⟨⟨h1, h2⟩, h3, h4, h5⟩ := h
  have e11 : kbG f g 11 = g 11 := kbG_ne (by decide)
  by_cases z : b = 6
  · subst z
    have f6 : f 25 = 6 := h1
    rw [if_pos rfl]
    refine ⟨⟨by unfold kbF; rw [if_pos f6, qup_eq]; rfl, by decide⟩, fun t ht => ?_, fun t ht => ?_, fun _ => ?_⟩
    · by_cases w : t < 5
      · exact rwOk_cg (h3 (t + 1) (by omega)) (fun j hj => kb_old6 f6 w hj)
      · rw [show t = 5 by omega]
        exact rwOk_cg hO (fun j hj => kb_new6 f6 hj)
    · by_cases w : t + 1 < 5
      · rw [kb_old6 f6 (by omega) (by decide), kb_old6 f6 w (by decide)]
        exact h4 (t + 1) (by omega)
      · rw [show t = 4 by omega, kb_old6 f6 (by decide) (by decide), kb_new6 f6 (by decide)]
        exact h5 (by decide)
    · rw [kb_new6 f6 (by decide), e11]
      exact Int.le_refl _
  · have hb : b < 6 := by omega
    rw [if_neg z]
    refine ⟨⟨by unfold kbF; rw [if_neg (by omega), qup_eq]; omega, by omega⟩, fun t ht => ?_, fun t ht => ?_, fun _ => ?_⟩
    · by_cases w : t < b
      · exact rwOk_cg (h3 t w) (fun j hj => kb_old h1 hb w hj)
      · rw [show t = b by omega]
        exact rwOk_cg hO (fun j hj => kb_new h1 hb hj)
    · by_cases w : t + 1 < b
      · rw [kb_old h1 hb (by omega) (by decide), kb_old h1 hb w (by decide)]
        exact h4 t w
      · have e : t + 1 = b := by omega
        rw [kb_old h1 hb (by omega) (by decide), e, kb_new h1 hb (by decide)]
        have := h5 (by omega)
        rw [show b - 1 = t by omega] at this
        exact this
    · rw [show b + 1 - 1 = b by omega, kb_new h1 hb (by decide), e11]
      exact Int.le_refl _
theorem pv_row {f : Nat → Int} {g g' : Nat → Nat → Int} {b : Nat} (h : pInv f g b) (e14 : g' 14 = g 14) (h11 : g 11 166 ≤ g' 11 166) : pInv f g' b := ⟨h.1, fun t ht => by rw [bkN_g e14]; exact h.2.1 t ht, fun t ht => by rw [bkN_g e14, bkN_g e14]; exact h.2.2.1 t ht, fun hb => by rw [bkN_g e14]; exact Int.le_trans (h.2.2.2 hb) h11⟩
theorem pv_of {F G : Nat → Nat → Int} {f : Nat → Int} {g : Nat → Nat → Int} (h : paG F G f g) : ∃ b, pInv f g b ∧ psR F G g b := by
  obtain ⟨b, ⟨p1, p2, p3⟩, p4, p5, p6⟩ := h
  exact ⟨b, ⟨⟨p1, p2⟩, p4, p5, p6⟩, p3⟩
theorem bs_pv {n pl c b : Nat} {f : Nat → Int} {g : Nat → Nat → Int} (hn : n ≤ 32) (h : rwOk (g 11)) (hP : plOk (g 7) pl) (hb : g 11 162 + c ≤ 9999) (hT : ∀ c, c < 648 → 0 ≤ g 25 c ∧ g 25 c ≤ 7) (hp : pInv f g b) : ∀ k, k ≤ c → ∃ b', pInv (kbI f k) (bsG n pl f g k) b'
  | 0, _ => ⟨b, hp⟩
  | k + 1, hk => by
    obtain ⟨b1, ih⟩ := bs_pv hn h hP hb hT hp k (by omega)
    obtain ⟨a, b9, d, e⟩ := bsG_inv (f := f) hn h hP hb hT k (by omega)
    have e11 : kbG (kbI f k) (bsG n pl f g k) 11 = bsG n pl f g k 11 := kbG_ne (by decide)
    have e7 : kbG (kbI f k) (bsG n pl f g k) 7 = g 7 := (kbG_ne (by decide)).trans (e 7 (by decide) (by decide) (by decide) (by decide))
    have e25 : kbG (kbI f k) (bsG n pl f g k) 25 = g 25 := (kbG_ne (by decide)).trans (e 25 (by decide) (by decide) (by decide) (by decide))
    obtain ⟨p, q, r, s⟩ := brG_ok (n := n) (pl := pl) (g := kbG (kbI f k) (bsG n pl f g k)) hn (by rw [e11]; exact a) (by rw [e7]; exact hP) (by rw [e11, b9]; omega) (by rw [e25]; exact hT)
    exact ⟨_, pv_row (pv_kb ih a) (s 14 (by decide) (by decide) (by decide)) (br_mono hn (by rw [e11]; exact a) (by rw [e7]; exact hP))⟩
theorem pv_b {f : Nat → Int} {g : Nat → Nat → Int} {b : Nat} (h : pInv f g b) : b = (f 25).toNat := by have := h.1.1; omega
theorem act_go {h : qH} {F G : Nat → Nat → Int} {f : Nat → Int} {g : Nat → Nat → Int} {n who : Nat} {what v K : Int} (hR : Rel F G f g) (hN : g 11 160 = (n : Int)) (hn : n ≤ 32) (hw : who < n) (hK : kAct what v = K) (hk : actOk K v) (k2 : ∀ h, qEx M_X12_act 0 [qR 220, qI what, qI (who : Int), qI v] [] (rput h 220 f g) (some (qI 1)) (rput h 220 (kbF f) (becG (kbG f g) K who v))) : StA M_X11_act M_X12_act [qI what, qI (who : Int), qI v, qU] [qI what, qI (who : Int), qI v] h F G f g := by
  obtain ⟨b, hp, hP⟩ := pv_of hR.2.2.2.2.1
  have hk1 : kAct what v ≠ -1 := by rw [hK]; have := hk.1; omega
  obtain ⟨F', G', ⟨e1, e2, e3⟩, k⟩ := xc_act (h := rput h 220 f g) (f := f) what v (rl_Wg hR) hN (rl_N hR) hn hP hp.1.1 hk1 hw
  rw [hK] at e2 e3
  have e11 : kbG f g 11 = g 11 := kbG_ne (by decide)
  have hp2 := pv_row (pv_kb hp (rl_N hR)) (g' := becG (kbG f g) K who v) (becG_ne (by decide) (by decide)) (bec_mono (by omega))
  refine ⟨1, F', G', kbF f, becG (kbG f g) K who v, Rel_row hR e1 e2 (becG_ok (by rw [e11]; exact rl_N hR) (by omega) hk) e3 hp2.1.2 hp2.1.1 (fun k _ hk => kbF_ne hk) (fun j _ h1 _ h3 h4 => (becG_ne h1 h3).trans (kbG_ne h4)) hp2.2.1 hp2.2.2.1 hp2.2.2.2, k, k2 _⟩
theorem st_act (what who v : Int) : Stq M_X11_act M_X12_act [qI what, qI who, qI v, qU] [qI what, qI who, qI v] := by
  intro h F G f g hR
  show StA _ _ _ _ h F G f g
  obtain ⟨n, hN, hn⟩ := rl_n hR
  obtain ⟨L, hL, hL2⟩ := rl_L hR
  obtain ⟨b, hp, _⟩ := pv_of hR.2.2.2.2.1
  have hb : 0 ≤ f 25 ∧ f 25 ≤ 6 := by have := hp.1; omega
  by_cases c : (0 ≤ what ∧ what ≤ 3) ∧ (0 ≤ who ∧ who < n) ∧ 0 ≤ v ∧ v ≤ if what = 0 then 7 else if what = 3 then 3 else 1
  · obtain ⟨c1, c2, c3⟩ := c
    obtain ⟨who, rfl⟩ := i_nat c2.1
    have hw : who < n := by omega
    obtain rfl | rfl | rfl | rfl : what = 0 ∨ what = 1 ∨ what = 2 ∨ what = 3 := by omega
    · have hv : 0 ≤ v ∧ v ≤ 7 := c3
      exact act_go hR hN hn hw (K := 0) (by unfold kAct; rw [if_pos rfl, if_pos hv]) ⟨by decide, hv.1, hv.2, fun z => absurd z (by decide)⟩ (fun h => c_act0 who v (by decide) hR.1 hb hN hn hL hL2 hw hv)
    · have hv : 0 ≤ v ∧ v ≤ 1 := c3
      obtain rfl | rfl : v = 0 ∨ v = 1 := by omega
      · exact act_go hR hN hn hw (K := 2) (by decide) ⟨by decide, by decide, by decide, fun z => absurd z (by decide)⟩ (fun h => c_act10 who (by decide) hR.1 hb hN hn hL hL2 hw)
      · exact act_go hR hN hn hw (K := 1) (by decide) ⟨by decide, by decide, by decide, fun z => absurd z (by decide)⟩ (fun h => c_act11 who (by decide) hR.1 hb hN hn hL hL2 hw)
    · have hv : 0 ≤ v ∧ v ≤ 1 := c3
      obtain rfl | rfl : v = 0 ∨ v = 1 := by omega
      · exact act_go hR hN hn hw (K := 4) (by decide) ⟨by decide, by decide, by decide, fun z => absurd z (by decide)⟩ (fun h => c_act20 who (by decide) hR.1 hb hN hn hL hL2 hw)
      · exact act_go hR hN hn hw (K := 3) (by decide) ⟨by decide, by decide, by decide, fun z => absurd z (by decide)⟩ (fun h => c_act21 who (by decide) hR.1 hb hN hn hL hL2 hw)
    · have hv : 0 ≤ v ∧ v ≤ 3 := c3
      exact act_go hR hN hn hw (K := 5) (by unfold kAct; rw [if_neg (by decide), if_pos rfl, if_pos hv]) ⟨by decide, hv.1, by omega, fun _ => hv.2⟩ (fun h => c_act3 who v (by decide) hR.1 hb hN hn hL hL2 hw hv)
  · refine sa_n hR (fun h => xc_act_no what who v (rl_Wg hR) hN (rl_N hR) (fun z => c ?_)) (fun h => c_act_no what who v (by decide) hR.1 hb hN hn hL hL2 c)
    obtain ⟨z1, z2⟩ := z
    unfold kAct at z1
    by_cases w0 : what = 0
    · subst w0
      rw [if_pos rfl] at z1
      by_cases y : 0 ≤ v ∧ v ≤ 7
      · exact ⟨by decide, z2, y⟩
      · rw [if_neg y] at z1; exact absurd rfl z1
    · rw [if_neg w0] at z1
      by_cases w3 : what = 3
      · subst w3
        rw [if_pos rfl] at z1
        by_cases y : 0 ≤ v ∧ v ≤ 3
        · exact ⟨by decide, z2, y⟩
        · rw [if_neg y] at z1; exact absurd rfl z1
      · rw [if_neg w3] at z1
        by_cases y : 0 ≤ v ∧ v ≤ 1
        · rw [if_neg (fun q => q y)] at z1
          by_cases w1 : what = 1
          · rw [if_neg w0, if_neg w3]; exact ⟨by omega, z2, y⟩
          · rw [if_neg w1] at z1
            by_cases w2 : what = 2
            · rw [if_neg w0, if_neg w3]; exact ⟨by omega, z2, y⟩
            · rw [if_neg w2] at z1; exact absurd rfl z1
        · rw [if_pos y] at z1; exact absurd rfl z1
theorem st_breaths (c : Int) (hcR : R32 c) : Stq M_X11_breaths M_X12_breaths [qI c, qU] [qI c, qU] := by
  intro h F G f g hR
  show StA _ _ _ _ h F G f g
  obtain ⟨n, hN, hn⟩ := rl_n hR
  have b162 := rw_at (rl_N hR) (j := 162) (by decide) (a := 0) (b := 9999) rfl rfl
  by_cases w : (1 ≤ c ∧ c ≤ 60) ∧ g 11 162 + c ≤ 9999
  · obtain ⟨c, rfl⟩ := i_nat (show 0 ≤ c by omega)
    obtain ⟨b, hp, hP⟩ := pv_of hR.2.2.2.2.1
    obtain ⟨pl, hpl, hplR, hplO⟩ : ∃ pl : Nat, f 18 = (pl : Int) ∧ plR F G g pl ∧ plOk (g 7) pl := by
      obtain ⟨_, ⟨pl, tl, ll, ml, TL, ⟨h1, _⟩, h3, _, _, ⟨h5, h6⟩, _⟩, _⟩ := id hR
      exact ⟨pl, h3.1, ⟨h1.2.2.1.1, h1.2.2.1.2.2, h6⟩, h5⟩
    have l11 : layG g 11 = g 11 := (gup_ne (by decide)).trans (gup_ne (by decide))
    have l7 : layG g 7 = g 7 := (gup_ne (by decide)).trans (gup_ne (by decide))
    have l13 : layG g 13 = g 13 := (gup_ne (by decide)).trans (gup_ne (by decide))
    have l14 : layG g 14 = g 14 := (gup_ne (by decide)).trans (gup_ne (by decide))
    have hW2 : wgR F G (layG g) := by
      have := rl_Wg hR
      unfold wgR
      rw [l11, l13]
      exact this
    have hT26 : ∀ c, c < 648 → G 7 c = layG g 26 c := fun c hc => by
      unfold layG
      rw [gup_eq, qmx_lt hc]
      exact rl_D hR c hc
    have hpR2 : plR F G (layG g) pl := by
      unfold plR
      rw [l7]
      exact hplR
    have hp2 : pInv f (layG g) b := pv_row hp l14 (by rw [l11]; exact Int.le_refl _)
    obtain ⟨F', G', ⟨e1, e2, e3⟩, k⟩ := xc_breaths (h := rput h 220 f g) (g := layG g) (f := f) (n := n) (pl := pl) (b := b) (c := c) (by rw [l11]; exact hN) (by rw [l11]; exact rl_N hR) (by rw [l7]; exact hplO) hpR2 hW2 (psR_cg hP (fun _ _ _ => ⟨rfl, rfl⟩) l14) hp.1.1 hp.1.2 (by rw [l11]; exact w.2) ⟨by omega, by omega⟩ (rl_B2 hR) (rl_T2 hR) hT26
    obtain ⟨i1, i2, i3, i4⟩ := bsG_inv (n := n) (pl := pl) (f := f) (g := layG g) (c := c) hn (by rw [l11]; exact rl_N hR) (by rw [l7]; exact hplO) (by rw [l11]; exact w.2) (rl_B2 hR) c (Nat.le_refl _)
    obtain ⟨b', hp3⟩ := bs_pv (n := n) (pl := pl) (f := f) (g := layG g) (c := c) hn (by rw [l11]; exact rl_N hR) (by rw [l7]; exact hplO) (by rw [l11]; exact w.2) (rl_B2 hR) hp2 c (Nat.le_refl _)
    rw [← pv_b hp3] at e3
    refine ⟨_, F', G', kbI f c, bsG n pl f (layG g) c, Rel_row hR e1 e2 i1 e3 hp3.1.2 hp3.1.1 (fun k _ hk => kbI_ne hk c) (fun j hj h1 _ h3 h4 => (i4 j h1 h3 (by omega) h4).trans ((gup_ne (by omega)).trans (gup_ne (by omega)))) hp3.2.1 hp3.2.2.1 hp3.2.2.2, k, c_breaths (by decide) hR.1 hN hpl (rl_N hR) hplO w.2 ⟨by omega, by omega⟩ (by have := hp.1; omega) (rl_O hR)⟩
  · exact sa_n hR (fun h => xc_breaths_no c (rl_W hR) hcR b162 w) (fun h => c_breaths_no c (by decide) hR.1 hcR b162 w)
theorem Rel_mk {F G F' G' : Nat → Nat → Int} {f f' : Nat → Int} {g g' : Nat → Nat → Int} {ml' : Nat} (hR : Rel F G f g) (e : ∀ a, a ≠ 63 → a ≠ 64 → F' a = F a ∧ G' a = G a) (hM : rwR F' G' 63 ml' (g' 15)) (hk : mkOk (g' 15) ml') (h27 : f' 27 = (ml' : Int)) (ef : ∀ k, k < 48 → k ≠ 27 → f' k = f k) (eg : ∀ j, j < 25 → j ≠ 15 → g' j = g j) : Rel F' G' f' g' := by
  obtain ⟨h0, ⟨pl, tl, ll, ml, TL, ⟨⟨⟨s1, s2, s3⟩, s4, s5, s6, s7, s8, s9⟩, s10⟩, ⟨n1, n2, n3, n4⟩, t1, o, q1, q2⟩, h2, h3, h4, h5, h6⟩ := hR
  have E : ∀ a, a ≠ 63 → a ≠ 64 → F' a = F a ∧ G' a = G a := e
  refine ⟨(ef 0 (by decide) (by decide)).trans h0, ?_, kp_rd h2 (e 160 (by decide) (by decide)).1 (e 161 (by decide) (by decide)).2 (e 170 (by decide) (by decide)).1 ⟨ef 1 (by decide) (by decide), ef 6 (by decide) (by decide), ef 7 (by decide) (by decide)⟩ (eg 1 (by decide) (by decide)), kp_im h3 (by rw [(e 2 (by decide) (by decide)).1]) (fun a h1 h2 => e a (by omega) (by omega)) (fun k h1 h2 => ef k (by omega) (by omega)) (fun j h1 h2 => eg j (by omega) (by omega)), kp_pa h4 (fun a h1 h2 => e a (by omega) (by omega)) (ef 25 (by decide) (by decide)) (eg 14 (by decide) (by decide)) (eg 11 (by decide) (by decide)), kp_th h5 (e 183 (by decide) (by decide)).2 (e 184 (by decide) (by decide)).2, by rw [(e 216 (by decide) (by decide)).1]; exact h6⟩
  rw [eg 2 (by decide) (by decide), eg 5 (by decide) (by decide), eg 3 (by decide) (by decide), eg 6 (by decide) (by decide), eg 7 (by decide) (by decide), eg 9 (by decide) (by decide), eg 11 (by decide) (by decide), eg 13 (by decide) (by decide), ef 18 (by decide) (by decide), ef 19 (by decide) (by decide)]
  refine ⟨pl, tl, ll, ml', TL, ⟨⟨⟨bkR_cg s1 (fun a h1 h2 => E a (by omega) (by omega)), fun j hj => ?_, fun j hj => ?_⟩, bkR_cg s4 (fun a h1 h2 => E a (by omega) (by omega)), rwR_cg s5 (E 52 (by decide) (by decide)).1 (E 53 (by decide) (by decide)).2, rwR_cg s6 (E 54 (by decide) (by decide)).1 (E 55 (by decide) (by decide)).2, wlR_cg s7 (E 56 (by decide) (by decide)).1 (E 57 (by decide) (by decide)).2 (E 58 (by decide) (by decide)).2 (E 59 (by decide) (by decide)).2, rwR_cg s8 (E 61 (by decide) (by decide)).1 (E 62 (by decide) (by decide)).2, hM⟩, fun j hj => ?_⟩, ⟨n1, n2, n3, h27⟩, t1, o, q1, hk⟩
  · rw [(E 6 (by decide) (by decide)).2]; exact s2 j hj
  · rw [(E 7 (by decide) (by decide)).2]; exact s3 j hj
  · rw [(E 30 (by decide) (by decide)).2]; exact s10 j hj
theorem st_goes (p s a b : Int) : Stq M_X11_goes M_X12_goes [qI p, qI s, qI a, qI b] [qI p, qI s, qI a, qI b] := by
  intro h F G f g hR
  show StA _ _ _ _ h F G f g
  obtain ⟨K, hK, hM, hKo⟩ := rl_M hR
  have x8 : xM 63 = 8 := by decide
  by_cases w : p = -1
  · subst w
    refine ⟨0, gup F 63 (qup (F 63) 2 0), G, qup f 27 0, g, Rel_mk (ml' := 0) hR (fun a h1 _ => ⟨gup_ne h1, rfl⟩) ⟨by rw [gup_eq, qup_eq]; rfl, Nat.zero_le _, fun j hj => absurd hj (by omega)⟩ ⟨by decide, fun i hi => absurd hi (by omega)⟩ (by rw [qup_eq]; rfl) (fun k _ hk => qup_ne hk) (fun _ _ _ => rfl), xc_goes_clear0 s a b hM, c_goes_clear s a b (by decide) hR.1⟩
  · by_cases c : (0 ≤ p ∧ p ≤ 99) ∧ (0 ≤ s ∧ s ≤ 99) ∧ (-9 ≤ a ∧ a ≤ 9) ∧ (1 ≤ b ∧ b ≤ 9)
    · by_cases z : K < 8
      · refine ⟨(K : Int) + 1, gup F 63 (qup (F 63) 2 ((K : Int) + 1)), gup G 64 (row4 (G 64) (4 * K) p s a b), qup f 27 ((K : Int) + 1), gup g 15 (row4 (g 15) (4 * K) p s a b), Rel_mk (ml' := K + 1) hR (fun a h1 h2 => ⟨gup_ne h1, gup_ne h2⟩) ⟨by rw [gup_eq, qup_eq]; omega, by omega, fun j hj => ?_⟩ ⟨by omega, fun i hi => ?_⟩ (by rw [qup_eq]; omega) (fun k _ hk => qup_ne hk) (fun j _ hj => gup_ne hj), xc_goes0 p s a b hM c (by omega), c_goes_yes p s a b (by decide) hR.1 hK hKo.1 ⟨c.1, c.2.1, c.2.2.1, c.2.2.2, z⟩⟩
        · show gup G 64 (row4 (G 64) (4 * K) p s a b) 64 j = _
          rw [gup_eq, gup_eq, row4_at, row4_at]
          by_cases y : j / 4 = K
          · rw [if_pos y, if_pos y]
          · rw [if_neg y, if_neg y]
            exact hM.2.2 j (by omega)
        · rw [gup_eq]
          by_cases y : i = K
          · subst y
            rw [r4_0, r4_1, r4_2, show row4 (g 15) (4 * i) p s a b (4 * i + 3) = b by rw [row4_at, if_pos (by omega), if_neg (by omega), if_neg (by omega), if_neg (by omega)]]
            exact c
          · rw [r4_n (by omega), r4_n (by omega), r4_n (by omega), r4_n (by omega)]
            exact hKo.2 i (by omega)
      · have hK8 := hKo.1
        exact sa_n hR (fun h => xc_goes_full p s a b hM c (by omega)) (fun h => c_goes_no p s a b (by decide) hR.1 hK hKo.1 w (fun q => z q.2.2.2.2))
    · exact sa_n hR (fun h => xc_goes_no p s a b w c) (fun h => c_goes_no p s a b (by decide) hR.1 hK hKo.1 w (fun q => c ⟨q.1, q.2.1, q.2.2.1, q.2.2.2.1⟩))
theorem st_keeps  : Stq M_X11_keeps M_X12_keeps [] [] := by
  intro h F G f g hR
  show StA _ _ _ _ h F G f g
  obtain ⟨F', G', ⟨e1, e2, e3, e4⟩, k⟩ := xc_keeps (h := rput h 220 f g) (rl_K hR)
  have hC := rl_C hR
  have es : sm (qmx 4 (g 5) (g 6)) 4 = sm (g 5) 4 := sm_cg (fun k hk => qmx_lt hk)
  have k2 := c_keeps (h := xput h F' G') (m := 220) (f := f) (g := g) (by decide) hR.1 hC
  rw [es] at k2
  have r3 : ∀ j, j < 384 → qmx 384 (g 2) (g 3) j = g 2 j := fun j hj => qmx_lt hj
  have r6 : ∀ j, j < 4 → qmx 4 (g 5) (g 6) j = g 5 j := fun j hj => qmx_lt hj
  refine ⟨_, F', G', f, gup (gup g 3 (qmx 384 (g 2) (g 3))) 6 (qmx 4 (g 5) (g 6)), ?_, k, k2⟩
  have o1 := rl_O hR
  have o2 := (rl_Bd hR).1
  have hT := rl_T hR
  obtain ⟨h0, ⟨pl, tl, ll, ml, TL, ⟨⟨⟨s1, s2, s3⟩, s4, s5, s6, s7, s8, s9⟩, s10⟩, n, t1, ⟨p1, p2, p3, p4, p5⟩, q1, q2⟩, h2, h3, h4, h5, h6⟩ := hR
  have E : ∀ a, (a < 28 ∨ 51 < a) → F' a = F a ∧ G' a = G a := e1
  have g3 : gup (gup g 3 (qmx 384 (g 2) (g 3))) 6 (qmx 4 (g 5) (g 6)) 3 = qmx 384 (g 2) (g 3) := (gup_ne (by decide)).trans (gup_eq _ _)
  have g6 : gup (gup g 3 (qmx 384 (g 2) (g 3))) 6 (qmx 4 (g 5) (g 6)) 6 = qmx 4 (g 5) (g 6) := gup_eq _ _
  have gn : ∀ j, j ≠ 3 → j ≠ 6 → gup (gup g 3 (qmx 384 (g 2) (g 3))) 6 (qmx 4 (g 5) (g 6)) j = g j := fun j h3 h6 => (gup_ne h6).trans (gup_ne h3)
  have rl : ∀ i, i < 96 → (((i % 24 : Nat) : Int) < qmx 4 (g 5) (g 6) (i / 24) ↔ ((i % 24 : Nat) : Int) < g 5 (i / 24)) := fun i hi => by rw [r6 _ (by omega)]
  refine ⟨h0, ?_, kp_rd h2 (E 160 (by decide)).1 (E 161 (by decide)).2 (E 170 (by decide)).1 ⟨rfl, rfl, rfl⟩ (gn 1 (by decide) (by decide)), kp_im h3 (by rw [(E 2 (by decide)).1]) (fun a h1 h2 => E a (by omega)) (fun _ _ _ => rfl) (fun j h1 h2 => gn j (by omega) (by omega)), kp_pa h4 (fun a h1 h2 => E a (by omega)) rfl (gn 14 (by decide) (by decide)) (gn 11 (by decide) (by decide)), kp_th h5 (E 183 (by decide)).2 (E 184 (by decide)).2, by rw [(E 216 (by decide)).1]; exact h6⟩
  rw [g3, g6, gn 2 (by decide) (by decide), gn 5 (by decide) (by decide), gn 7 (by decide) (by decide), gn 9 (by decide) (by decide), gn 11 (by decide) (by decide), gn 13 (by decide) (by decide), gn 15 (by decide) (by decide)]
  refine ⟨pl, tl, ll, ml, TL, ⟨⟨⟨bkR_cg s1 (fun a h1 h2 => E a (by omega)), fun j hj => ?_, fun j hj => ?_⟩, ?_, rwR_cg s5 (E 52 (by decide)).1 (E 53 (by decide)).2, rwR_cg s6 (E 54 (by decide)).1 (E 55 (by decide)).2, wlR_cg s7 (E 56 (by decide)).1 (E 57 (by decide)).2 (E 58 (by decide)).2 (E 59 (by decide)).2, rwR_cg s8 (E 61 (by decide)).1 (E 62 (by decide)).2, rwR_cg s9 (E 63 (by decide)).1 (E 64 (by decide)).2⟩, fun j hj => ?_⟩, n, t1, ⟨p1, fun i hi hc => ?_, p3, p4, fun i hi hc m hm => ?_⟩, q1, q2⟩
  · rw [(E 6 (by decide)).2]; exact s2 j hj
  · rw [(E 7 (by decide)).2]; exact s3 j hj
  · intro k hk
    rw [r6 k hk]
    exact pgR_R (e2 k hk) (fun j hj => (r3 _ (by omega)).symm)
  · rw [show G' (3 + 27) j = G 6 j from e3 j hj, hT j hj]
    exact (bkTc_cg r3 r6 j).symm
  · rw [r3 _ (by omega)]
    exact p1 i hi ((rl i hi).mp hc)
  · rw [r3 _ (by omega)]
    exact p4 i hi ((rl i hi).mp hc) m hm
