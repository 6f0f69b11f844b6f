/-! ===== CONTRACTS: the reference: packs, isSame, round ===== -/
theorem nbL_bd {n : Nat} {ring : Prop} {k : Nat} (hk : k < n) : -1 ≤ nbL n ring k ∧ nbL n ring k < n := by
  unfold nbL
  exact qif_or (fun z => -1 ≤ z ∧ z < (n : Int)) (by omega) (qif_or (fun z => -1 ≤ z ∧ z < (n : Int)) (by omega) (by omega))
theorem snL_cg {n : Nat} {ring : Prop} {ga gb : Nat → Int} {k : Nat} (hk : k < n) (h : ∀ j, j < n → ga j = gb j) : snL n ring ga k = snL n ring gb k := by
  have hb := nbL_bd (ring := ring) hk
  unfold snL
  rw [h (nbL n ring k).toNat (by omega)]
theorem snR_cg {n : Nat} {ring : Prop} {ga gb : Nat → Int} {k : Nat} (hk : k < n) (h : ∀ j, j < n → ga j = gb j) : snR n ring ga k = snR n ring gb k := by
  unfold snR
  rw [h k hk]
theorem saw_cg {n : Nat} {t : Int} {late : Prop} {mi wa mj wb : Nat → Int} (ht : -1 ≤ t ∧ t < n) (h1 : ∀ j, j < n → mi j = mj j) (h2 : ∀ j, j < n → wa j = wb j) : saw t late mi wa = saw t late mj wb := by
  unfold saw
  by_cases e : t = -1
  · rw [qif_t e, qif_t e]
  · rw [qif_f e, qif_f e, h1 t.toNat (by omega), h2 t.toNat (by omega)]
theorem qcs_cg {n : Nat} {ring : Prop} {ga gb : Nat → Int} {la lb : Nat → Prop} {mi wa mj wb : Nat → Int} {k : Nat} (hk : k < n) (hg : ∀ j, j < n → ga j = gb j) (hl : ∀ j, j < n → (la j ↔ lb j)) (h1 : ∀ j, j < n → mi j = mj j) (h2 : ∀ j, j < n → wa j = wb j) : qcs n ring ga la mi wa k = qcs n ring gb lb mj wb k := by
  unfold qcs
  rw [snL_cg hk hg, snR_cg hk hg, h1 k hk, saw_cg (snL_bd gb hk) h1 h2, saw_cg (snR_bd gb hk) h1 h2, propext (hl k hk)]
theorem rcs_cg {N N' : Nat → Int} {n k : Nat} (hn : n ≤ 32) (hk : k < n) (h : ∀ j, j < 167 → N j = N' j) : rcs N n k = rcs N' n k := by
  unfold rcs
  rw [h 161 (by omega)]
  exact qcs_cg hk (fun j hj => h _ (by omega)) (fun j hj => by rw [h _ (by omega)]) (fun j hj => h _ (by omega)) (fun j hj => h _ (by omega))
theorem rcs_bd {N : Nat → Int} {n k : Nat} (hn : n ≤ 32) (hk : k < n) (h : ∀ j, j < 64 → 0 ≤ N j ∧ N j ≤ 7) : 0 ≤ rcs N n k ∧ rcs N n k < 648 := qcs_bd hk (fun j hj => h _ (by omega)) (fun j hj => h _ (by omega))
theorem rmv_cg {T S N N' : Nat → Int} {n j : Nat} (hn : n ≤ 32) (hT : ∀ c, c < 648 → T c = S c) (h : ∀ j, j < 167 → N j = N' j) (hB : ∀ j, j < 64 → 0 ≤ N' j ∧ N' j ≤ 7) (hj : j < 167) : rmv T N n n j = rmv S N' n n j := by
  unfold rmv
  by_cases h1 : j < n
  · rw [if_pos h1, if_pos h1]
    have hb := rcs_bd hn h1 hB
    unfold rnx rak
    rw [rcs_cg hn h1 h, hT _ (by omega), h (64 + j) (by omega), h j hj]
  · rw [if_neg h1, if_neg h1]
    by_cases h2 : 32 ≤ j ∧ j < 32 + n
    · rw [if_pos h2, if_pos h2, h (j - 32) (by omega)]
    · rw [if_neg h2, if_neg h2, h j hj]
theorem rmv_bd {T N : Nat → Int} {n j : Nat} (hn : n ≤ 32) (hT : ∀ c, c < 648 → 0 ≤ T c ∧ T c ≤ 7) (hB : ∀ j, j < 64 → 0 ≤ N j ∧ N j ≤ 7) (hj : j < 64) : 0 ≤ rmv T N n n j ∧ rmv T N n n j ≤ 7 := by
  unfold rmv
  by_cases h1 : j < n
  · rw [if_pos h1]
    have hb := rcs_bd hn h1 hB
    have hT2 := hT (rcs N n j).toNat (by omega)
    have hB2 := hB j hj
    unfold rnx
    exact qif_or (fun z => 0 ≤ z ∧ z ≤ (7 : Int)) hT2 hB2
  · rw [if_neg h1]
    by_cases h2 : 32 ≤ j ∧ j < 32 + n
    · rw [if_pos h2]; exact hB _ (by omega)
    · rw [if_neg h2]; exact hB j hj
theorem rmv_hi {T N : Nat → Int} {n j : Nat} (hn : n ≤ 32) (hj : 64 ≤ j) : rmv T N n n j = N j := by
  unfold rmv
  rw [if_neg (by omega), if_neg (by omega)]
/-- the row behind t breaths, when nothing is told -/
noncomputable def rr (T N : Nat → Int) (n : Nat) : Nat → Nat → Int
  | 0 => N
  | t + 1 => rmv T (rr T N n t) n n
theorem rr_bd {T N : Nat → Int} {n : Nat} (hn : n ≤ 32) (hT : ∀ c, c < 648 → 0 ≤ T c ∧ T c ≤ 7) (hB : ∀ j, j < 64 → 0 ≤ N j ∧ N j ≤ 7) : ∀ t j, j < 64 → 0 ≤ rr T N n t j ∧ rr T N n t j ≤ 7
  | 0, j, hj => hB j hj
  | t + 1, _, hj => rmv_bd hn hT (rr_bd hn hT hB t) hj
theorem rr_hi {T N : Nat → Int} {n j : Nat} (hn : n ≤ 32) (hj : 64 ≤ j) : ∀ t, rr T N n t j = N j
  | 0 => rfl
  | t + 1 => (rmv_hi hn hj).trans (rr_hi hn hj t)
noncomputable def pk (F : Nat → Int) (o : Nat) : Nat → Int
  | 0 => 0
  | i + 1 => 8 * pk F o i + F (o + i)
theorem pk_bd {F : Nat → Int} {o : Nat} : ∀ i, (∀ j, j < i → 0 ≤ F (o + j) ∧ F (o + j) ≤ 7) → 0 ≤ pk F o i ∧ pk F o i < ((8 ^ i : Nat) : Int)
  | 0, _ => by show 0 ≤ (0 : Int) ∧ (0 : Int) < ((8 ^ 0 : Nat) : Int); decide
  | i + 1, h => by
    have h1 := pk_bd i (fun j hj => h j (by omega))
    have h2 := h i (by omega)
    show 0 ≤ 8 * pk F o i + F (o + i) ∧ 8 * pk F o i + F (o + i) < ((8 ^ (i + 1) : Nat) : Int)
    rw [Nat.pow_succ]
    omega
theorem pow8 {i : Nat} (h : i ≤ 15) : 8 ^ i ≤ 35184372088832 := Nat.pow_le_pow_right (n := 8) (by decide) h
theorem pk_bd15 {F : Nat → Int} {o i : Nat} (hi : i ≤ 15) (h : ∀ j, j < 16 → 0 ≤ F (o + j) ∧ F (o + j) ≤ 7) : 0 ≤ pk F o i ∧ pk F o i < 35184372088832 := by
  have h1 := pk_bd (F := F) (o := o) i (fun j hj => h j (by omega))
  have h2 := pow8 hi
  omega
theorem pk_inj {F G : Nat → Int} {o : Nat} : ∀ i, (∀ j, j < i → 0 ≤ F (o + j) ∧ F (o + j) ≤ 7) → (∀ j, j < i → 0 ≤ G (o + j) ∧ G (o + j) ≤ 7) → pk F o i = pk G o i → ∀ j, j < i → F (o + j) = G (o + j)
  | 0, _, _, _, j, hj => absurd hj (by omega)
  | i + 1, h, h2, e, j, hj => by
    have e : 8 * pk F o i + F (o + i) = 8 * pk G o i + G (o + i) := e
    have b1 := h i (by omega)
    have b2 := h2 i (by omega)
    rcases Nat.lt_or_ge j i with q | q
    · exact pk_inj i (fun j hj => h j (by omega)) (fun j hj => h2 j (by omega)) (by omega) j q
    · have : j = i := by omega
      subst this
      omega
theorem pk_cg {F G : Nat → Int} {o : Nat} : ∀ i, (∀ j, j < i → F (o + j) = G (o + j)) → pk F o i = pk G o i
  | 0, _ => rfl
  | i + 1, h => by
    show 8 * pk F o i + F (o + i) = 8 * pk G o i + G (o + i)
    rw [pk_cg i (fun j hj => h j (by omega)), h i (by omega)]
theorem pk_iff {F G : Nat → Int} (hF : ∀ j, j < 64 → 0 ≤ F j ∧ F j ≤ 7) (hG : ∀ j, j < 64 → 0 ≤ G j ∧ G j ≤ 7) : (∀ k, k < 4 → pk F (16 * k) 16 = pk G (16 * k) 16) ↔ ∀ j, j < 64 → F j = G j := by
  constructor
  · intro h j hj
    have := pk_inj 16 (fun i hi => hF (16 * (j / 16) + i) (by omega)) (fun i hi => hG (16 * (j / 16) + i) (by omega)) (h (j / 16) (by omega)) (j % 16) (by omega)
    rwa [show 16 * (j / 16) + j % 16 = j by omega] at this
  · intro h k hk
    exact pk_cg 16 (fun i hi => h _ (by omega))
theorem lc_eq {a b : Int} (h : (if a > b then (1 : Int) else if a = b then 0 else -1) = 0) : a = b := by
  by_cases h1 : a > b
  · rw [if_pos h1] at h; exact absurd h (by decide)
  · rw [if_neg h1] at h
    by_cases h2 : a = b
    · exact h2
    · rw [if_neg h2] at h; exact absurd h (by decide)
theorem lc_rf {a b : Int} (h : a = b) : (if a > b then (1 : Int) else if a = b then 0 else -1) = 0 := by
  rw [if_neg (by omega), if_pos h]
set_option maxRecDepth 20000 in
set_option maxHeartbeats 1000000 in
theorem c_packs {h : qH} {m : Nat} {f : Nat → Int} {g : Nat → Nat → Int} (t : Nat) (hm : 2 ≤ m) (ht : t ≤ 2000) (hr : ∀ j, j < 64 → 0 ≤ g 12 j ∧ g 12 j ≤ 7) : ∃ g', (fr [34] g g' ∧ (∀ j, j < 4 → g' 34 (4 * t + j) = (pk (g 12) (16 * j) 16)) ∧ ∀ j, j < 4 * t → g' 34 j = g 34 j) ∧ qEx M_X12_packs 0 [qR m, qR (m + 12), qI (t : Int), qU, qU, qU, qU] [] (rput h m f g) none (rput h m f g') := by
  refine y_in (fun Q hQ => ?_)
  refine qy (fun _ _ k9 => z_iconst d_X12_packs_0 (by decide) k9) ?_
  refine qy (fun _ _ k9 => z_istore_n (ls' := [qR m, qR (m + 12), qI (t : Int), qI 0, qU, qU, qU]) d_X12_packs_1 rfl (by decide) rfl k9) ?_
  refine qy (fun _ _ k9 => z_eq (qc rfl (qc rfl (qc rfl (qc (qi (by omega)) (qc rfl (qc rfl (qc rfl rfl))))))) rfl rfl k9) (y_wh2 (fun (k : Nat) (x : Nat → Nat → Int) => 4 - k) (fun (k : Nat) (x : Nat → Nat → Int) => [qR m, qR (m + 12), qI (t : Int), qI (k : Int), qU, qU, qU]) (fun (k : Nat) (x : Nat → Nat → Int) => (rput h m f x)) (fun (k : Nat) (x : Nat → Nat → Int) => k ≤ 4 ∧ fr [34] g x ∧ (∀ j, j < k → x 34 (4 * t + j) = (pk (g 12) (16 * j) 16)) ∧ ∀ j, j < 4 * t → x 34 j = g 34 j) 0 g (⟨by omega, fr_rf, fun j hj => absurd hj (by omega), fun j hj => rfl⟩) (fun k x hp kk => ?_))
  obtain ⟨hk, hf, hA, hB⟩ := hp
  show qEy M_X12_packs 2 [qR m, qR (m + 12), qI (t : Int), qI (k : Int), qU, qU, qU] [] (rput h m f x) Q
  refine qy (fun _ _ k9 => z_iload_n d_X12_packs_2 rfl rfl k9) ?_
  refine qy (fun _ _ k9 => z_iconst d_X12_packs_3 (by decide) k9) ?_
  refine qy2 (fun _ _ => z_icmp_ge 63 d_X12_packs_4 (by decide)) (fun hc1 => ?_) (fun hc1 => ?_)
  · exact y_ret (hQ x (⟨hf, fun j hj => hA j (by omega), hB⟩)) (z_vret d_X12_packs_63 rfl rfl rfl)
  · refine qy (fun _ _ k9 => z_lconst d_X12_packs_7 (z := 0) (by decide) k9) ?_
    refine qy (fun _ _ k9 => z_lstore (ls' := [qR m, qR (m + 12), qI (t : Int), qI (k : Int), qL 0, qU, qU]) d_X12_packs_8 (by decide) rfl k9) ?_
    refine qy (fun _ _ k9 => z_iconst d_X12_packs_10 (by decide) k9) ?_
    refine qy (fun _ _ k9 => z_istore (ls' := [qR m, qR (m + 12), qI (t : Int), qI (k : Int), qL 0, qU, qI 0]) d_X12_packs_11 (by decide) rfl k9) ?_
    refine qy (fun _ _ k9 => z_eq (qc rfl (qc rfl (qc rfl (qc rfl (qc (ql (rfl)) (qc rfl (qc (qi (by omega)) rfl))))))) rfl rfl k9) (y_wh1 (fun (i : Nat) => 16 - i) (fun (i : Nat) => [qR m, qR (m + 12), qI (t : Int), qI (k : Int), qL (pk (g 12) (16 * k) i), qU, qI (i : Int)]) (fun (i : Nat) => (rput h m f x)) (fun (i : Nat) => i ≤ 16) 0 (Nat.zero_le 16) (fun i hi kki => ?_))
    show qEy M_X12_packs 13 [qR m, qR (m + 12), qI (t : Int), qI (k : Int), qL (pk (g 12) (16 * k) i), qU, qI (i : Int)] [] (rput h m f x) Q
    refine qy (fun _ _ k9 => z_iload d_X12_packs_13 rfl k9) ?_
    refine qy (fun _ _ k9 => z_bipush d_X12_packs_15 (by decide) k9) ?_
    refine qy2 (fun _ _ => z_icmp_ge 45 d_X12_packs_17 (by decide)) (fun hc2 => ?_) (fun hc2 => ?_)
    · refine qy (fun _ _ k9 => z_aload_n d_X12_packs_45 rfl rfl k9) ?_
      refine qy (fun _ _ k9 => z_getf (v := qR (m + 34)) d_X12_packs_46 fl_X12_115 rput_o rfl k9) ?_
      refine qy (fun _ _ k9 => z_iconst d_X12_packs_49 (by decide) k9) ?_
      refine qy (fun _ _ k9 => z_iload_n d_X12_packs_50 rfl rfl k9) ?_
      refine qy (fun _ _ k9 => z_imul d_X12_packs_51 (by omega) k9) ?_
      refine qy (fun _ _ k9 => z_iload_n d_X12_packs_52 rfl rfl k9) ?_
      refine qy (fun _ _ k9 => z_iadd d_X12_packs_53 (by omega) k9) ?_
      refine qy (fun _ _ k9 => z_lload d_X12_packs_54 rfl k9) ?_
      refine qy (fun _ _ k9 => z_lst ((4 * t) + k) d_X12_packs_56 (rput_a2 34 (t := 1) (n := 8004) (F := (x 34)) rfl rfl rfl (by decide) (by decide)) (by omega) rfl (by omega) k9) ?_
      refine qy (fun _ _ k9 => z_eq rfl rfl (rput_sa 34 rfl rfl (by decide) (by decide)) k9) ?_
      refine qy (fun _ _ k9 => z_iinc (ls' := [qR m, qR (m + 12), qI (t : Int), qI ((k : Int) + 1), qL (pk (g 12) (16 * k) i), qU, qI (i : Int)]) d_X12_packs_57 rfl (by decide) (by omega) rfl k9) ?_
      refine qy (fun _ _ k9 => z_goto 2 d_X12_packs_60 (by decide) k9) ?_
      exact qy (fun _ _ k9 => z_dr (qle_k rfl (qle_k rfl (qle_k rfl (qle_k (qi (by omega)) (qle_d (qle_k rfl (qle_d qle_n))))))) rfl rfl k9) (kk (k + 1) (gup x 34 (qup (x 34) ((4 * t) + k) (pk (g 12) (16 * k) i))) (⟨by omega, fr_up hf (by decide), fun j hj => if e : j = k then (by show qup (x 34) ((4 * t) + k) _ (4 * t + j) = _; rw [e, qup_eq, show i = 16 by omega]) else (by show qup (x 34) ((4 * t) + k) _ (4 * t + j) = _; rw [qup_ne (by omega)]; exact hA j (by omega)), fun j hj => (by show qup (x 34) ((4 * t) + k) _ j = _; rw [qup_ne (by omega)]; exact hB j hj)⟩) (by omega))
    · have hp9 := pk_bd15 (F := g 12) (o := 16 * k) (i := i) (by omega) (fun j hj => hr _ (by omega))
      have hr9 := hr (16 * k + i) (by omega)
      refine qy (fun _ _ k9 => z_ldc2 (n := 8) d_X12_packs_20 cq_X12_383 (by decide) (by decide) k9) ?_
      refine qy (fun _ _ k9 => z_lload d_X12_packs_23 rfl k9) ?_
      refine qy (fun _ _ k9 => z_lmul d_X12_packs_25 (by omega) k9) ?_
      refine qy (fun _ _ k9 => z_aload_n d_X12_packs_26 rfl rfl k9) ?_
      refine qy (fun _ _ k9 => z_bipush d_X12_packs_27 (by decide) k9) ?_
      refine qy (fun _ _ k9 => z_iload_n d_X12_packs_29 rfl rfl k9) ?_
      refine qy (fun _ _ k9 => z_imul d_X12_packs_30 (by omega) k9) ?_
      refine qy (fun _ _ k9 => z_iload d_X12_packs_31 rfl k9) ?_
      refine qy (fun _ _ k9 => z_iadd d_X12_packs_33 (by omega) k9) ?_
      refine qy (fun _ _ k9 => z_ild ((16 * k) + i) d_X12_packs_34 (rput_a2 12 (t := 0) (n := 167) (F := (x 12)) rfl rfl rfl (by decide) (by decide)) rfl (by omega) k9) ?_
      refine qy (fun _ _ k9 => z_eq rfl (qc (qi (show ((x 12) ((16 * k) + i)) = (g 12 (16 * k + i)) from congrFun (hf 12 (by decide)) _)) rfl) rfl k9) ?_
      refine qy (fun _ _ k9 => z_i2l d_X12_packs_35 k9) ?_
      refine qy (fun _ _ k9 => z_ladd d_X12_packs_36 (by omega) k9) ?_
      refine qy (fun _ _ k9 => z_lstore (ls' := [qR m, qR (m + 12), qI (t : Int), qI (k : Int), qL ((8 * (pk (g 12) (16 * k) i)) + (g 12 (16 * k + i))), qU, qI (i : Int)]) d_X12_packs_37 (by decide) rfl k9) ?_
      refine qy (fun _ _ k9 => z_iinc (ls' := [qR m, qR (m + 12), qI (t : Int), qI (k : Int), qL ((8 * (pk (g 12) (16 * k) i)) + (g 12 (16 * k + i))), qU, qI ((i : Int) + 1)]) d_X12_packs_39 rfl (by decide) (by omega) rfl k9) ?_
      refine qy (fun _ _ k9 => z_goto 13 d_X12_packs_42 (by decide) k9) ?_
      exact qy (fun _ _ k9 => z_eq (qc rfl (qc rfl (qc rfl (qc rfl (qc (ql (rfl)) (qc rfl (qc (qi (by omega)) rfl))))))) rfl rfl k9) (kki (i + 1) (by omega) (by omega))
set_option maxRecDepth 20000 in
set_option maxHeartbeats 4000000 in
theorem c_isSame {h : qH} {m : Nat} {f : Nat → Int} {g : Nat → Nat → Int} (s t : Nat) (hm : 2 ≤ m) (hs : s ≤ 2000) (ht : t ≤ 2000) : qEx M_X12_isSame 0 [qR m, qI (s : Int), qI (t : Int), qU] [] (rput h m f g) (some (qI (qb (∀ j, j < 4 → g 34 (4 * s + j) = g 34 (4 * t + j))))) (rput h m f g) := by
  refine q_gen (fun r hr er eh => ?_)
  refine z_iconst d_X12_isSame_0 (by decide) ?_
  refine z_istore_n (ls' := [qR m, qI (s : Int), qI (t : Int), qI 0]) d_X12_isSame_1 rfl (by decide) rfl ?_
  refine z_eq (qc rfl (qc rfl (qc rfl (qc (qi (by omega)) rfl)))) rfl rfl (z_for 4 (fun k => [qR m, qI (s : Int), qI (t : Int), qI (k : Int)]) (fun k => (rput h m f g)) (fun k => ∀ j, j < k → g 34 (4 * s + j) = g 34 (4 * t + j)) (fun j hj => absurd hj (by omega)) (fun k hik hp kkk => ?_) (fun hp => ?_))
  · show qEx M_X12_isSame 2 [qR m, qI (s : Int), qI (t : Int), qI (k : Int)] [] (rput h m f g) r hr
    refine z_iload_n d_X12_isSame_2 rfl rfl ?_
    refine z_iconst d_X12_isSame_3 (by decide) ?_
    refine z_icmp_ge 39 d_X12_isSame_4 (by decide) (fun hc1 => absurd hc1 (by omega)) (fun hc1 => ?_)
    refine z_aload_n d_X12_isSame_7 rfl rfl ?_
    refine z_getf (v := qR (m + 34)) d_X12_isSame_8 fl_X12_115 rput_o rfl ?_
    refine z_iconst d_X12_isSame_11 (by decide) ?_
    refine z_iload_n d_X12_isSame_12 rfl rfl ?_
    refine z_imul d_X12_isSame_13 (by omega) ?_
    refine z_iload_n d_X12_isSame_14 rfl rfl ?_
    refine z_iadd d_X12_isSame_15 (by omega) ?_
    refine z_lld ((4 * s) + k) d_X12_isSame_16 (rput_a2 34 (t := 1) (n := 8004) (F := (g 34)) rfl rfl rfl (by decide) (by decide)) rfl (by omega) ?_
    refine z_aload_n d_X12_isSame_17 rfl rfl ?_
    refine z_getf (v := qR (m + 34)) d_X12_isSame_18 fl_X12_115 rput_o rfl ?_
    refine z_iconst d_X12_isSame_21 (by decide) ?_
    refine z_iload_n d_X12_isSame_22 rfl rfl ?_
    refine z_imul d_X12_isSame_23 (by omega) ?_
    refine z_iload_n d_X12_isSame_24 rfl rfl ?_
    refine z_iadd d_X12_isSame_25 (by omega) ?_
    refine z_lld ((4 * t) + k) d_X12_isSame_26 (rput_a2 34 (t := 1) (n := 8004) (F := (g 34)) rfl rfl rfl (by decide) (by decide)) rfl (by omega) ?_
    refine z_lcmp d_X12_isSame_27 ?_
    refine z_if_eq 33 d_X12_isSame_28 (by decide) (fun q1 => ?_) (fun q1 => ?_)
    · refine z_iinc (ls' := [qR m, qI (s : Int), qI (t : Int), qI ((k : Int) + 1)]) d_X12_isSame_33 rfl (by decide) (by omega) rfl ?_
      refine z_goto 2 d_X12_isSame_36 (by decide) ?_
      exact z_eq (qc rfl (qc rfl (qc rfl (qc (qi (by omega)) rfl)))) rfl rfl (kkk (q_lts hp (lc_eq q1)))
    · refine z_iconst d_X12_isSame_31 (by decide) ?_
      exact z_zret d_X12_isSame_32 rfl (by first | exact qb_01 _ | decide | omega) (qer er (qb_f (fun z9 => q1 (lc_rf (z9 k (by omega)))))) eh
  · show qEx M_X12_isSame 2 [qR m, qI (s : Int), qI (t : Int), qI (4 : Int)] [] (rput h m f g) r hr
    refine z_iload_n d_X12_isSame_2 rfl rfl ?_
    refine z_iconst d_X12_isSame_3 (by decide) ?_
    refine z_icmp_ge 39 d_X12_isSame_4 (by decide) (fun hc2 => ?_) (fun hc2 => absurd hc2 (by omega))
    refine z_iconst d_X12_isSame_39 (by decide) ?_
    exact z_zret d_X12_isSame_40 rfl (by first | exact qb_01 _ | decide | omega) (qer er (qb_t hp)) eh
theorem y_goesOn12 {h : qH} {m : Nat} {f : Nat → Int} {g : Nat → Nat → Int} {n : Nat} (T N : Nat → Int) (hm : 2 ≤ m) (hN : N 160 = (n : Int)) (hn : n ≤ 32) (hT : ∀ c, c < 648 → g 25 c = T c) (hR : ∀ j, j < 167 → g 12 j = N j) (hB : ∀ j, j < 64 → 0 ≤ N j ∧ N j ≤ 7) : ∃ g', (fr [12, 29] g g' ∧ ∀ j, j < 167 → g' 12 j = rmv T N n n j) ∧ ∃ v, qEx M_X12_goesOn 0 [qR m, qR (m + 12), qU, qU, qU, qU] [] (rput h m f g) (some (qI v)) (rput h m f g') := by
  refine ⟨_, ⟨fun j hj => (gup_ne (fun e => hj (by simp [e]))).trans (gup_ne (fun e => hj (by simp [e]))), fun j hj => ?_⟩, _, c_goesOn12 (n := n) hm (by rw [hR 160 (by omega)]; exact hN) hn (fun k hk => by rw [hR k (by omega)]; exact hB k (by omega)) (fun k hk => by rw [hR _ (by omega)]; exact hB _ (by omega))⟩
  rw [gup_eq]
  exact rmv_cg hn hT hR hB hj
/-- whether the wall behind s breaths is the wall behind t; the first that comes round -/
def rdS (T N : Nat → Int) (n s t : Nat) : Prop := ∀ j, j < 64 → rr T N n s j = rr T N n t j
noncomputable def rdF (T N : Nat → Int) (n : Nat) : Int := fst (fun k => ∃ s, s < k + 1 ∧ rdS T N n s (k + 1)) 2000
noncomputable def rdR (T N : Nat → Int) (n : Nat) (what : Int) : Int := qif (rdF T N n = -1) (-1) (qif (what ≠ 0) (rdF T N n + 1 - fst (fun s => rdS T N n s ((rdF T N n).toNat + 1)) ((rdF T N n).toNat + 1)) (rdF T N n + 1))
theorem rdR_at {T N : Nat → Int} {n i s : Nat} (what : Int) (hi : i < 2000) (hp : ∀ k, k < i → ¬ ∃ s, s < k + 1 ∧ rdS T N n s (k + 1)) (hs : s < i + 1) (hn : ∀ k, k < s → ¬ rdS T N n k (i + 1)) (h : rdS T N n s (i + 1)) : rdR T N n what = qif (what ≠ 0) ((i : Int) + 1 - s) ((i : Int) + 1) := by
  have e : rdF T N n = (i : Int) := fst_at hi hp ⟨s, hs, h⟩
  unfold rdR
  rw [e, qif_f (by omega), Int.toNat_natCast, fst_at hs hn h]
theorem rdR_no {T N : Nat → Int} {n : Nat} (what : Int) (hp : ∀ k, k < 2000 → ¬ ∃ s, s < k + 1 ∧ rdS T N n s (k + 1)) : rdR T N n what = -1 := by
  unfold rdR
  rw [show rdF T N n = -1 from fst_none hp, qif_t rfl]
set_option maxRecDepth 20000 in
set_option maxHeartbeats 1000000 in
theorem c_round {h : qH} {m : Nat} {f : Nat → Int} {g : Nat → Nat → Int} {n : Nat} (what : Int) (hm : 2 ≤ m) (h0 : f 0 = 0) (hN : g 11 160 = (n : Int)) (hn : n ≤ 32) (hB : ∀ j, j < 64 → 0 ≤ g 11 j ∧ g 11 j ≤ 7) (hw : 0 ≤ what ∧ what ≤ 1) (hO : bkOk (g 2) (g 5)) : ∃ g', (sq g g') ∧ qEx M_X12_round 0 [qR m, qI what, qU, qU] [] (rput h m f g) (some (qI (rdR (ownT g) (g 11) n what))) (rput h m f g') := by
  refine y_in (fun Q hQ => ?_)
  have hOB := ownT_bd hO
  refine qy (fun _ _ k9 => z_aload_n d_X12_round_0 rfl rfl k9) ?_
  refine qy (fun _ _ k9 => z_iconst d_X12_round_1 (by decide) k9) ?_
  refine qy (fun _ _ k9 => z_putf (fs' := [qI 0, qI (f 1), qI (f 2), qI (f 3), qI (f 4), qI (f 5), qI (f 6), qI (f 7), qR (m + 1), qR (m + 2), qR (m + 3), qR (m + 4), qR (m + 5), qR (m + 6), qR (m + 7), qR (m + 8), qR (m + 9), qR (m + 10), qI (f 18), qI (f 19), qI (f 20), qR (m + 11), qR (m + 12), qR (m + 13), qR (m + 14), qI (f 25), qR (m + 15), qI (f 27), qR (m + 16), qR (m + 17), qR (m + 18), qR (m + 19), qR (m + 20), qR (m + 21), qR (m + 22), qR (m + 23), qR (m + 24), qI (f 37), qI (f 38), qI (f 39), qI (f 40), qR (m + 25), qR (m + 26), qR (m + 27), qR (m + 28), qR (m + 29), qR (m + 30), qR (m + 31), qI (f 48), qR (m + 32), qR (m + 33), qR (m + 34), qR (m + 35), qR (m + 36), qR (m + 37)]) d_X12_round_2 fp_X12_127 rput_o (fun _ => rfl) (fun _ => rfl) (Nat.le_of_ble_eq_true rfl) rfl k9) ?_
  refine qy (fun _ _ k9 => z_eq rfl rfl ((rput_sf (f' := qup f 0 0) rfl).trans (rput_cg (qup_self h0) rfl)) k9) ?_
  refine qy (fun _ _ k9 => z_iload_n d_X12_round_5 rfl rfl k9) ?_
  refine qy (fun _ _ k9 => z_iconst d_X12_round_6 (by decide) k9) ?_
  refine qy (fun _ _ k9 => z_iconst d_X12_round_7 (by decide) k9) ?_
  refine qy (fun _ _ k9 => z_cs (M1 := M_X12_in) d_X12_round_8 ls_X12_137 k_X12_in [qI what, qI 0, qI 1] rfl rfl (Nat.le_of_ble_eq_true rfl) (by decide) (by decide) (Nat.le_of_ble_eq_true rfl) (c_in what 0 1) k9) ?_
  refine qy2 (fun _ _ => z_ifneB 16 d_X12_round_11 (by decide)) (fun hc1 => ?_) (fun hc1 => absurd hc1 (by omega))
  refine qy (fun _ _ k9 => z_aload_n d_X12_round_16 rfl rfl k9) ?_
  obtain ⟨y1, ⟨hlf, hlT, hlF⟩, hx1⟩ := y_laysOwn hm
  refine qy (fun _ _ k9 => z_cv0 (M1 := M_X12_laysOwn) d_X12_round_17 lv_X12_275 k_X12_laysOwn [] rfl rfl rput_o ⟨_, _, rfl⟩ (Nat.le_of_ble_eq_true rfl) (by decide) (by decide) (Nat.le_of_ble_eq_true rfl) hx1 k9) ?_
  refine qy (fun _ _ k9 => z_aload_n d_X12_round_20 rfl rfl k9) ?_
  refine qy (fun _ _ k9 => z_getf (v := qR (m + 11)) d_X12_round_21 fl_X12_44 rput_o rfl k9) ?_
  refine qy (fun _ _ k9 => z_aload_n d_X12_round_24 rfl rfl k9) ?_
  refine qy (fun _ _ k9 => z_getf (v := qR (m + 12)) d_X12_round_25 fl_X12_47 rput_o rfl k9) ?_
  refine qy (fun _ _ k9 => z_cs0 (M1 := M_X12_copies) d_X12_round_28 ls_X12_249 k_X12_copies [qR (m + 11), qR (m + 12)] rfl rfl (Nat.le_of_ble_eq_true rfl) (by decide) (by decide) (Nat.le_of_ble_eq_true rfl) (c_copies (rput_a2 11 (t := 0) (n := 167) (F := (y1 11)) rfl rfl rfl (by decide) (by decide)) (rput_a2 12 (t := 0) (n := 167) (F := (y1 12)) rfl rfl rfl (by decide) (by decide)) (by omega) (by omega) (by decide) (by decide)) k9) ?_
  refine qy (fun _ _ k9 => z_eq rfl rfl (rput_sa 12 rfl rfl (by decide) (by decide)) k9) ?_
  refine qy (fun _ _ k9 => z_aload_n d_X12_round_31 rfl rfl k9) ?_
  refine qy (fun _ _ k9 => z_aload_n d_X12_round_32 rfl rfl k9) ?_
  refine qy (fun _ _ k9 => z_getf (v := qR (m + 12)) d_X12_round_33 fl_X12_47 rput_o rfl k9) ?_
  refine qy (fun _ _ k9 => z_iconst d_X12_round_36 (by decide) k9) ?_
  obtain ⟨y2, ⟨hpf2, hpA2, hpB2⟩, hx2⟩ := c_packs (h := h) (f := f) (g := (gup y1 12 (qmx 167 (y1 11) (y1 12)))) 0 hm (by omega) (fun j hj => by show 0 ≤ qmx 167 (y1 11) (y1 12) j ∧ qmx 167 (y1 11) (y1 12) j ≤ 7; rw [qmx_lt (by omega), hlf 11 (by decide)]; exact hB j hj)
  refine qy (fun _ _ k9 => z_cv0 (M1 := M_X12_packs) d_X12_round_37 lv_X12_385 k_X12_packs [qR (m + 12), qI 0] rfl rfl rput_o ⟨_, _, rfl⟩ (Nat.le_of_ble_eq_true rfl) (by decide) (by decide) (Nat.le_of_ble_eq_true rfl) hx2 k9) ?_
  refine qy (fun _ _ k9 => z_iconst d_X12_round_40 (by decide) k9) ?_
  refine qy (fun _ _ k9 => z_istore_n (ls' := [qR m, qI what, qI 1, qU]) d_X12_round_41 rfl (by decide) rfl k9) ?_
  refine qy (fun _ _ k9 => z_eq (qc rfl (qc rfl (qc (qi (by omega)) (qc rfl rfl)))) rfl rfl k9) (y_wh2 (fun (i : Nat) (x : Nat → Nat → Int) => 2000 - i) (fun (i : Nat) (x : Nat → Nat → Int) => [qR m, qI what, qI ((i : Nat) + 1 : Int), qU]) (fun (i : Nat) (x : Nat → Nat → Int) => (rput h m f x)) (fun (i : Nat) (x : Nat → Nat → Int) => i ≤ 2000 ∧ sq g x ∧ (∀ c, c < 648 → x 25 c = (ownT g) c) ∧ (∀ j, j < 167 → x 12 j = (rr (ownT g) (g 11) n i) j) ∧ (∀ s, s < i + 1 → ∀ j, j < 4 → x 34 (4 * s + j) = pk (rr (ownT g) (g 11) n s) (16 * j) 16) ∧ ∀ k, k < i → ¬ ∃ s, s < k + 1 ∧ rdS (ownT g) (g 11) n s (k + 1)) 0 y2 (⟨by omega, (sq_tr (sq_up (sq_tr sq_rf (sq_fr hlf (by decide))) (by decide)) (sq_fr hpf2 (by decide))), fr_at hpf2 25 (by decide) hlT, fr_at hpf2 12 (by decide) (fun j hj => (show qmx 167 (y1 11) (y1 12) j = g 11 j from (qmx_lt hj).trans (congrFun (hlf 11 (by decide)) _))), fun s hs j hj => by rw [show s = 0 by omega, hpA2 j hj]; exact pk_cg 16 (fun i hi => (show qmx 167 (y1 11) (y1 12) (16 * j + i) = g 11 _ from (qmx_lt (by omega)).trans (congrFun (hlf 11 (by decide)) _))), fun k hk => absurd hk (by omega)⟩) (fun i x hp kk => ?_))
  obtain ⟨hi, hs, hT, hR, hK, hL⟩ := hp
  show qEy M_X12_round 42 [qR m, qI what, qI ((i : Nat) + 1 : Int), qU] [] (rput h m f x) Q
  refine qy (fun _ _ k9 => z_iload_n d_X12_round_42 rfl rfl k9) ?_
  refine qy (fun _ _ k9 => z_sipush d_X12_round_43 (by decide) k9) ?_
  refine qy2 (fun _ _ => z_icmp_gt 107 d_X12_round_46 (by decide)) (fun hc2 => ?_) (fun hc2 => ?_)
  · refine qy (fun _ _ k9 => z_iconst d_X12_round_107 (by decide) k9) ?_
    exact y_ret (hQ x hs) (z_iret d_X12_round_108 rfl (qsi (rdR_no what (fun k hk => hL k (by omega)))) rfl)
  · refine qy (fun _ _ k9 => z_aload_n d_X12_round_49 rfl rfl k9) ?_
    refine qy (fun _ _ k9 => z_aload_n d_X12_round_50 rfl rfl k9) ?_
    refine qy (fun _ _ k9 => z_getf (v := qR (m + 12)) d_X12_round_51 fl_X12_47 rput_o rfl k9) ?_
    obtain ⟨y3, ⟨hgf, hgR⟩, v9, hx3⟩ := y_goesOn12 (h := h) (f := f) (n := n) (ownT g) (rr (ownT g) (g 11) n i) hm (by rw [rr_hi hn (by omega)]; exact hN) hn hT hR (rr_bd hn hOB hB i)
    refine qy (fun _ _ k9 => z_cv (M1 := M_X12_goesOn) d_X12_round_54 lv_X12_299 k_X12_goesOn [qR (m + 12)] rfl rfl rput_o ⟨_, _, rfl⟩ (Nat.le_of_ble_eq_true rfl) (by decide) (by decide) (Nat.le_of_ble_eq_true rfl) hx3 k9) ?_
    refine qy (fun _ _ k9 => z_pop d_X12_round_57 rfl k9) ?_
    refine qy (fun _ _ k9 => z_aload_n d_X12_round_58 rfl rfl k9) ?_
    refine qy (fun _ _ k9 => z_aload_n d_X12_round_59 rfl rfl k9) ?_
    refine qy (fun _ _ k9 => z_getf (v := qR (m + 12)) d_X12_round_60 fl_X12_47 rput_o rfl k9) ?_
    refine qy (fun _ _ k9 => z_iload_n d_X12_round_63 rfl rfl k9) ?_
    obtain ⟨y4, ⟨hpf4, hpA4, hpB4⟩, hx4⟩ := c_packs (h := h) (f := f) (g := y3) (i + 1) hm (by omega) (fun j hj => by rw [hgR j (by omega)]; exact rr_bd hn hOB hB (i + 1) j hj)
    refine qy (fun _ _ k9 => z_cv0 (M1 := M_X12_packs) d_X12_round_64 lv_X12_385 k_X12_packs [qR (m + 12), qI ((i : Nat) + 1 : Int)] rfl rfl rput_o ⟨_, _, rfl⟩ (Nat.le_of_ble_eq_true rfl) (by decide) (by decide) (Nat.le_of_ble_eq_true rfl) hx4 k9) ?_
    have hK2 : ∀ s, s < i + 1 + 1 → ∀ j, j < 4 → y4 34 (4 * s + j) = pk (rr (ownT g) (g 11) n s) (16 * j) 16 := fun s hs j hj => if e : s = i + 1 then (by rw [e, hpA4 j hj]; exact pk_cg 16 (fun k hk => hgR _ (by omega))) else (by rw [hpB4 _ (by omega), show y3 34 = x 34 from hgf 34 (by decide)]; exact hK s (by omega) j hj)
    refine qy (fun _ _ k9 => z_iconst d_X12_round_67 (by decide) k9) ?_
    refine qy (fun _ _ k9 => z_istore_n (ls' := [qR m, qI what, qI ((i : Nat) + 1 : Int), qI 0]) d_X12_round_68 rfl (by decide) rfl k9) ?_
    refine qy (fun _ _ k9 => z_eq (qc rfl (qc rfl (qc rfl (qc (qi (by omega)) rfl)))) rfl rfl k9) (y_wh1 (fun (s : Nat) => i + 1 - s) (fun (s : Nat) => [qR m, qI what, qI ((i : Nat) + 1 : Int), qI (s : Int)]) (fun (s : Nat) => (rput h m f y4)) (fun (s : Nat) => s ≤ i + 1 ∧ ∀ j, j < s → ¬ rdS (ownT g) (g 11) n j (i + 1)) 0 (⟨by omega, fun k hk => absurd hk (by omega)⟩) (fun s hpk kkk => ?_))
    obtain ⟨hk, hE⟩ := hpk
    show qEy M_X12_round 69 [qR m, qI what, qI ((i : Nat) + 1 : Int), qI (s : Int)] [] (rput h m f y4) Q
    refine qy (fun _ _ k9 => z_iload_n d_X12_round_69 rfl rfl k9) ?_
    refine qy (fun _ _ k9 => z_iload_n d_X12_round_70 rfl rfl k9) ?_
    refine qy2 (fun _ _ => z_icmp_ge 101 d_X12_round_71 (by decide)) (fun hc3 => ?_) (fun hc3 => ?_)
    · refine qy (fun _ _ k9 => z_iinc (ls' := [qR m, qI what, qI (((i : Nat) + 1 : Int) + 1), qI (s : Int)]) d_X12_round_101 rfl (by decide) (by omega) rfl k9) ?_
      refine qy (fun _ _ k9 => z_goto 42 d_X12_round_104 (by decide) k9) ?_
      exact qy (fun _ _ k9 => z_dr (qle_k rfl (qle_k rfl (qle_k (qi (by omega)) (qle_d qle_n)))) rfl rfl k9) (kk (i + 1) y4 (⟨by omega, (sq_tr (sq_tr hs (sq_fr hgf (by decide))) (sq_fr hpf4 (by decide))), fr_at hpf4 25 (by decide) (fr_at hgf 25 (by decide) hT), fr_at hpf4 12 (by decide) hgR, hK2, q_lts hL (fun z9 => by obtain ⟨s9, hs9, q9⟩ := z9; exact hE s9 (by omega) q9)⟩) (by omega))
    · refine qy (fun _ _ k9 => z_aload_n d_X12_round_74 rfl rfl k9) ?_
      refine qy (fun _ _ k9 => z_iload_n d_X12_round_75 rfl rfl k9) ?_
      refine qy (fun _ _ k9 => z_iload_n d_X12_round_76 rfl rfl k9) ?_
      refine qy (fun _ _ k9 => z_cv (M1 := M_X12_isSame) d_X12_round_77 lv_X12_389 k_X12_isSame [qI (s : Int), qI ((i : Nat) + 1 : Int)] rfl rfl rput_o ⟨_, _, rfl⟩ (Nat.le_of_ble_eq_true rfl) (by decide) (by decide) (Nat.le_of_ble_eq_true rfl) (c_isSame s (i + 1) hm (by omega) (by omega)) k9) ?_
      refine qy (fun _ _ k9 => z_eq rfl (qc (qi (show (qb (∀ j, j < 4 → y4 34 (4 * s + j) = y4 34 (4 * (i + 1) + j))) = (qb (rdS (ownT g) (g 11) n s (i + 1))) from qb_congr (Iff.trans (by constructor <;> intro h9 j hj; (have := h9 j hj; rw [hK2 s (by omega) j hj, hK2 (i + 1) (by omega) j hj] at this; exact this); (rw [hK2 s (by omega) j hj, hK2 (i + 1) (by omega) j hj]; exact h9 j hj)) (pk_iff (rr_bd hn hOB hB s) (rr_bd hn hOB hB (i + 1)))))) rfl) rfl k9) ?_
      refine qy2n (fun _ _ => z_ifeqB 95 d_X12_round_80 (by decide)) (fun hd9 => ?_) (fun hd9 => ?_)
      · refine qy (fun _ _ k9 => z_iinc (ls' := [qR m, qI what, qI ((i : Nat) + 1 : Int), qI ((s : Int) + 1)]) d_X12_round_95 rfl (by decide) (by omega) rfl k9) ?_
        refine qy (fun _ _ k9 => z_goto 69 d_X12_round_98 (by decide) k9) ?_
        exact qy (fun _ _ k9 => z_eq (qc rfl (qc rfl (qc rfl (qc (qi (by omega)) rfl)))) rfl rfl k9) (kkk (s + 1) (⟨by omega, q_lts hE hd9⟩) (by omega))
      · refine qy (fun _ _ k9 => z_iload_n d_X12_round_83 rfl rfl k9) ?_
        suffices kJ84 : qEy M_X12_round 94 [qR m, qI what, qI ((i : Nat) + 1 : Int), qI (s : Int)] [qI (qif (what ≠ 0) (((i : Nat) + 1 : Int) - (s : Int)) ((i : Nat) + 1 : Int))] (rput h m f y4) Q by
          refine qy2 (fun _ _ => z_if_ne 91 d_X12_round_84 (by decide)) (fun hc4 => ?_) (fun hc4 => ?_)
          · refine qy (fun _ _ k9 => z_iload_n d_X12_round_91 rfl rfl k9) ?_
            refine qy (fun _ _ k9 => z_iload_n d_X12_round_92 rfl rfl k9) ?_
            refine qy (fun _ _ k9 => z_isub d_X12_round_93 (by omega) k9) ?_
            exact qy (fun _ _ k9 => z_eq rfl (qc (qi (qif_t hc4).symm) rfl) rfl k9) kJ84
          · refine qy (fun _ _ k9 => z_iload_n d_X12_round_87 rfl rfl k9) ?_
            refine qy (fun _ _ k9 => z_goto 94 d_X12_round_88 (by decide) k9) ?_
            exact qy (fun _ _ k9 => z_eq rfl (qc (qi (qif_f hc4).symm) rfl) rfl k9) kJ84
        exact y_ret (hQ y4 (sq_tr (sq_tr hs (sq_fr hgf (by decide))) (sq_fr hpf4 (by decide)))) (z_iret d_X12_round_94 rfl (qsi (rdR_at what (by omega) hL (by omega) hE hd9)) rfl)
set_option maxRecDepth 20000 in
set_option maxHeartbeats 4000000 in
theorem c_round_no {h : qH} {m : Nat} {f : Nat → Int} {g : Nat → Nat → Int} (what : Int) (hm : 2 ≤ m) (h0 : f 0 = 0) (hno : ¬ (0 ≤ what ∧ what ≤ 1)) : qEx M_X12_round 0 [qR m, qI what, qU, qU] [] (rput h m f g) (some (qI (-1))) (rput h m f g) := by
  refine q_gen (fun r hr er eh => ?_)
  refine z_aload_n d_X12_round_0 rfl rfl ?_
  refine z_iconst d_X12_round_1 (by decide) ?_
  refine z_putf (fs' := [qI 0, qI (f 1), qI (f 2), qI (f 3), qI (f 4), qI (f 5), qI (f 6), qI (f 7), qR (m + 1), qR (m + 2), qR (m + 3), qR (m + 4), qR (m + 5), qR (m + 6), qR (m + 7), qR (m + 8), qR (m + 9), qR (m + 10), qI (f 18), qI (f 19), qI (f 20), qR (m + 11), qR (m + 12), qR (m + 13), qR (m + 14), qI (f 25), qR (m + 15), qI (f 27), qR (m + 16), qR (m + 17), qR (m + 18), qR (m + 19), qR (m + 20), qR (m + 21), qR (m + 22), qR (m + 23), qR (m + 24), qI (f 37), qI (f 38), qI (f 39), qI (f 40), qR (m + 25), qR (m + 26), qR (m + 27), qR (m + 28), qR (m + 29), qR (m + 30), qR (m + 31), qI (f 48), qR (m + 32), qR (m + 33), qR (m + 34), qR (m + 35), qR (m + 36), qR (m + 37)]) d_X12_round_2 fp_X12_127 rput_o (fun _ => rfl) (fun _ => rfl) (Nat.le_of_ble_eq_true rfl) rfl ?_
  refine z_eq rfl rfl ((rput_sf (f' := qup f 0 0) rfl).trans (rput_cg (qup_self h0) rfl)) ?_
  refine z_iload_n d_X12_round_5 rfl rfl ?_
  refine z_iconst d_X12_round_6 (by decide) ?_
  refine z_iconst d_X12_round_7 (by decide) ?_
  refine z_cs (M1 := M_X12_in) d_X12_round_8 ls_X12_137 k_X12_in [qI what, qI 0, qI 1] rfl rfl (Nat.le_of_ble_eq_true rfl) (by decide) (by decide) (Nat.le_of_ble_eq_true rfl) (c_in what 0 1) ?_
  refine z_ifneB 16 d_X12_round_11 (by decide) (fun hc1 => absurd hc1 (by omega)) (fun hc1 => ?_)
  refine z_iconst d_X12_round_14 (by decide) ?_
  exact z_iret d_X12_round_15 rfl er eh
