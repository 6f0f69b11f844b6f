/-! ===== CONTRACTS: the reference: before ===== -/
theorem qL2i_id {x : Int} (h : R32 x) : qL2i x = x := by
  unfold qL2i
  rw [Int64.toInt_toInt32, r64_to ⟨by have := h.1; omega, by have := h.2; omega⟩]
  exact Int.bmod_eq_of_le_mul_two (by have := h.1; omega) (by have := h.2; omega)
/-- ways: over those who may stand left (a) of one with b, c right of him -/
noncomputable def wA (T W : Nat → Int) (mi : Int) (b c : Nat) : Nat → Int
  | 0 => 0
  | a + 1 => qif (T (81 * b + 9 * a + c) = mi) ((wA T W mi b c a + W (9 * a + b)) % 1000000007) (wA T W mi b c a)
theorem wA_bd {T W : Nat → Int} {mi : Int} {b c : Nat} : ∀ a, 0 ≤ wA T W mi b c a ∧ wA T W mi b c a < 1000000007
  | 0 => by show 0 ≤ (0 : Int) ∧ (0 : Int) < 1000000007; omega
  | a + 1 => by
    have h := wA_bd (T := T) (W := W) (mi := mi) (b := b) (c := c) a
    show 0 ≤ qif (T (81 * b + 9 * a + c) = mi) _ _ ∧ qif (T (81 * b + 9 * a + c) = mi) _ _ < 1000000007
    exact qif_or (fun z => 0 ≤ z ∧ z < (1000000007 : Int)) (by omega) h
theorem wA_0 {T W : Nat → Int} {mi : Int} {b c a : Nat} (hW : W (9 * a + b) = 0) : wA T W mi b c (a + 1) = wA T W mi b c a := by
  have h := wA_bd (T := T) (W := W) (mi := mi) (b := b) (c := c) a
  show qif (T (81 * b + 9 * a + c) = mi) _ _ = _
  rw [hW, show (wA T W mi b c a + 0) % 1000000007 = wA T W mi b c a by omega, qif_same]
def ac (k c j : Nat) : Nat := if j / 9 < k % 9 ∨ (j / 9 = k % 9 ∧ j % 9 < c) then k / 9 + 1 else k / 9
noncomputable def wO (T W : Nat → Int) (mi : Int) (last : Prop) (k c j : Nat) : Int := qif (j / 9 = 8 ∨ ¬ (j % 9 = 8 ↔ last)) 0 (wA T W mi (j / 9) (j % 9) (ac k c j))
section Ways
variable {T W : Nat → Int} {mi : Int} {last : Prop} {k c j : Nat}
theorem wO_bd : 0 ≤ wO T W mi last k c j ∧ wO T W mi last k c j < 1000000007 := by
  have h := wA_bd (T := T) (W := W) (mi := mi) (b := j / 9) (c := j % 9) (ac k c j)
  unfold wO
  exact qif_or (fun z => 0 ≤ z ∧ z < (1000000007 : Int)) (by omega) h
theorem wO_ac {k' c' : Nat} (h : ¬ j / 9 = 8 → ac k c j = ac k' c' j) : wO T W mi last k c j = wO T W mi last k' c' j := by
  unfold wO
  by_cases e : j / 9 = 8
  · rw [qif_t (Or.inl e), qif_t (Or.inl e)]
  · rw [h e]
theorem wO_end (hk : k < 81) (hj : j < 81) : wO T W mi last k 9 j = wO T W mi last (k + 1) 0 j := wO_ac (fun _ => by unfold ac; split <;> split <;> omega)
theorem wO_skip (hj : j < 81) (hc : c ≤ 9) (h : k % 9 = 8 ∨ W k = 0) : wO T W mi last k c j = wO T W mi last k 9 j := by
  rcases h with h | h
  · exact wO_ac (fun _ => by unfold ac; split <;> split <;> omega)
  · by_cases e : j / 9 = k % 9 ∧ ¬ j % 9 < c
    · have e1 : ac k c j = k / 9 := by unfold ac; rw [if_neg (by omega)]
      have e2 : ac k 9 j = k / 9 + 1 := by unfold ac; rw [if_pos (by omega)]
      unfold wO
      rw [e1, e2, wA_0 (by rw [e.1, show 9 * (k / 9) + k % 9 = k by omega]; exact h)]
    · exact wO_ac (fun _ => by unfold ac; split <;> split <;> omega)
theorem wO_no (hj : j < 81) (h : ¬ (c = 8 ↔ last) ∨ T (81 * (k % 9) + 9 * (k / 9) + c) ≠ mi) : wO T W mi last k c j = wO T W mi last k (c + 1) j := by
  by_cases e : j / 9 = k % 9 ∧ j % 9 = c
  · have e1 : ac k c j = k / 9 := by unfold ac; rw [if_neg (by omega)]
    have e2 : ac k (c + 1) j = k / 9 + 1 := by unfold ac; rw [if_pos (by omega)]
    unfold wO
    rcases h with h | h
    · rw [qif_t (Or.inr (by rw [e.2]; exact h)), qif_t (Or.inr (by rw [e.2]; exact h))]
    · rw [e1, e2, e.1, e.2]
      refine qif_cg Iff.rfl rfl ?_
      show _ = qif (T (81 * (k % 9) + 9 * (k / 9) + c) = mi) _ _
      rw [qif_f h]
  · exact wO_ac (fun _ => by unfold ac; split <;> split <;> omega)
theorem wO_yes {Y : Nat → Int} (hY : ∀ j, j < 81 → Y j = wO T W mi last k c j) (hb : k % 9 < 8) (hc : c < 9) (h : c = 8 ↔ last) (h2 : T (81 * (k % 9) + 9 * (k / 9) + c) = mi) (hj : j < 81) : qup Y (9 * (k % 9) + c) ((Y (9 * (k % 9) + c) + W k) % 1000000007) j = wO T W mi last k (c + 1) j := by
  by_cases e : j = 9 * (k % 9) + c
  · have d1 : j / 9 = k % 9 := by omega
    have d2 : j % 9 = c := by omega
    have e1 : ac k c j = k / 9 := by unfold ac; rw [if_neg (by omega)]
    have e2 : ac k (c + 1) j = k / 9 + 1 := by unfold ac; rw [if_pos (by omega)]
    rw [← e, qup_eq, hY j hj]
    unfold wO
    rw [e1, e2, d1, d2, qif_f (fun z => z.elim (fun w => by omega) (fun w => w h)), qif_f (fun z => z.elim (fun w => by omega) (fun w => w h))]
    show _ = qif (T (81 * (k % 9) + 9 * (k / 9) + c) = mi) _ _
    rw [qif_t h2, show 9 * (k / 9) + k % 9 = k by omega]
  · rw [qup_ne e, hY j hj]
    exact wO_ac (fun _ => by unfold ac; split <;> split <;> omega)
end Ways
/-- the ways behind i keepers, for a row of n whose MINDS are M -/
noncomputable def wL (T M : Nat → Int) (n : Nat) : Nat → Nat → Int
  | 0 => fun j => qif (j / 9 = 8 ∧ j % 9 ≠ 8) 1 0
  | i + 1 => wO T (wL T M n i) (M i) (i + 1 = n) 81 0
theorem wL_bd {T M : Nat → Int} {n : Nat} : ∀ i j, 0 ≤ wL T M n i j ∧ wL T M n i j < 1000000007
  | 0, j => by
    show 0 ≤ qif (j / 9 = 8 ∧ j % 9 ≠ 8) 1 0 ∧ qif (j / 9 = 8 ∧ j % 9 ≠ 8) 1 0 < (1000000007 : Int)
    exact qif_or (fun z => 0 ≤ z ∧ z < (1000000007 : Int)) (by omega) (by omega)
  | _ + 1, _ => wO_bd
noncomputable def wS (T M : Nat → Int) (n : Nat) : Nat → Int
  | 0 => 0
  | b + 1 => wS T M n b + wL T M n n (9 * b + 8)
theorem wS_bd {T M : Nat → Int} {n : Nat} : ∀ b, 0 ≤ wS T M n b ∧ wS T M n b ≤ 1000000007 * b
  | 0 => by show 0 ≤ (0 : Int) ∧ (0 : Int) ≤ 1000000007 * ((0 : Nat) : Int); omega
  | b + 1 => by
    have h := wS_bd (T := T) (M := M) (n := n) b
    have h2 := wL_bd (T := T) (M := M) (n := n) n (9 * b + 8)
    show 0 ≤ wS T M n b + wL T M n n (9 * b + 8) ∧ wS T M n b + wL T M n n (9 * b + 8) ≤ 1000000007 * ((b + 1 : Nat) : Int)
    omega
set_option maxRecDepth 20000 in
set_option maxHeartbeats 1000000 in
theorem c_before {h : qH} {m : Nat} {f : Nat → Int} {g : Nat → Nat → Int} {n : Nat} (hm : 2 ≤ m) (h0 : f 0 = 0) (hN : g 11 160 = (n : Int)) (hn : 1 ≤ n ∧ n ≤ 32) : ∃ g', (sq g g') ∧ qEx M_X12_before 0 [qR m, qU, qU, qU, qU, qU, qU] [] (rput h m f g) (some (qI ((wS (ownT g) (g 11) n 8) % 1000000007))) (rput h m f g') := by
  refine y_in (fun Q hQ => ?_)
  refine qy (fun _ _ k9 => z_aload_n d_X12_before_0 rfl rfl k9) ?_
  refine qy (fun _ _ k9 => z_iconst d_X12_before_1 (by decide) k9) ?_
  refine qy (fun _ _ k9 => z_putf (fs' := [qI 0, qI (f 1), qI (f 2), qI (f 3), qI (f 4), qI (f 5), qI (f 6), qI (f 7), qR (m + 1), qR (m + 2), qR (m + 3), qR (m + 4), qR (m + 5), qR (m + 6), qR (m + 7), qR (m + 8), qR (m + 9), qR (m + 10), qI (f 18), qI (f 19), qI (f 20), qR (m + 11), qR (m + 12), qR (m + 13), qR (m + 14), qI (f 25), qR (m + 15), qI (f 27), qR (m + 16), qR (m + 17), qR (m + 18), qR (m + 19), qR (m + 20), qR (m + 21), qR (m + 22), qR (m + 23), qR (m + 24), qI (f 37), qI (f 38), qI (f 39), qI (f 40), qR (m + 25), qR (m + 26), qR (m + 27), qR (m + 28), qR (m + 29), qR (m + 30), qR (m + 31), qI (f 48), qR (m + 32), qR (m + 33), qR (m + 34), qR (m + 35), qR (m + 36), qR (m + 37)]) d_X12_before_2 fp_X12_127 rput_o (fun _ => rfl) (fun _ => rfl) (Nat.le_of_ble_eq_true rfl) rfl k9) ?_
  refine qy (fun _ _ k9 => z_eq rfl rfl ((rput_sf (f' := qup f 0 0) rfl).trans (rput_cg (qup_self h0) rfl)) k9) ?_
  refine qy (fun _ _ k9 => z_aload_n d_X12_before_5 rfl rfl k9) ?_
  refine qy (fun _ _ k9 => z_getf (v := qR (m + 11)) d_X12_before_6 fl_X12_44 rput_o rfl k9) ?_
  refine qy (fun _ _ k9 => z_sipush d_X12_before_9 (by decide) k9) ?_
  refine qy (fun _ _ k9 => z_ild 160 d_X12_before_12 (rput_a2 11 (t := 0) (n := 167) (F := (g 11)) rfl rfl rfl (by decide) (by decide)) rfl (by omega) k9) ?_
  refine qy (fun _ _ k9 => z_eq rfl (qc (qi hN) rfl) rfl k9) ?_
  refine qy (fun _ _ k9 => z_istore_n (ls' := [qR m, qI (n : Int), qU, qU, qU, qU, qU]) d_X12_before_13 rfl (by decide) rfl k9) ?_
  refine qy (fun _ _ k9 => z_iload_n d_X12_before_14 rfl rfl k9) ?_
  refine qy2 (fun _ _ => z_if_ne 20 d_X12_before_15 (by decide)) (fun hc1 => ?_) (fun hc1 => absurd hc1 (by omega))
  refine qy (fun _ _ k9 => z_aload_n d_X12_before_20 rfl rfl k9) ?_
  obtain ⟨y1, ⟨hlf, hlT, hlF⟩, hx1⟩ := y_laysOwn hm
  refine qy (fun _ _ k9 => z_cv0 (M1 := M_X12_laysOwn) d_X12_before_21 lv_X12_275 k_X12_laysOwn [] rfl rfl rput_o ⟨_, _, rfl⟩ (Nat.le_of_ble_eq_true rfl) (by decide) (by decide) (Nat.le_of_ble_eq_true rfl) hx1 k9) ?_
  refine qy (fun _ _ k9 => z_iconst d_X12_before_24 (by decide) k9) ?_
  refine qy (fun _ _ k9 => z_istore_n (ls' := [qR m, qI (n : Int), qI 0, qU, qU, qU, qU]) d_X12_before_25 rfl (by decide) rfl k9) ?_
  refine qy (fun _ _ k9 => z_eq (qc rfl (qc rfl (qc (qi (by omega)) (qc rfl (qc rfl (qc rfl (qc rfl rfl))))))) rfl rfl k9) (y_wh2 (fun (k : Nat) (x : Nat → Nat → Int) => 81 - k) (fun (k : Nat) (x : Nat → Nat → Int) => [qR m, qI (n : Int), qI (k : Int), qU, qU, qU, qU]) (fun (k : Nat) (x : Nat → Nat → Int) => (rput h m f x)) (fun (k : Nat) (x : Nat → Nat → Int) => k ≤ 81 ∧ sq g x ∧ (∀ c, c < 648 → x 25 c = (ownT g) c) ∧ ∀ j, j < k → x 32 j = (wL (ownT g) (g 11) n 0) j) 0 y1 (⟨by omega, (sq_tr sq_rf (sq_fr hlf (by decide))), hlT, fun j hj => absurd hj (by omega)⟩) (fun k x hp kk => ?_))
  obtain ⟨hk, hs, hT, hW⟩ := hp
  show qEy M_X12_before 26 [qR m, qI (n : Int), qI (k : Int), qU, qU, qU, qU] [] (rput h m f x) Q
  refine qy (fun _ _ k9 => z_iload_n d_X12_before_26 rfl rfl k9) ?_
  refine qy (fun _ _ k9 => z_bipush d_X12_before_27 (by decide) k9) ?_
  refine qy2 (fun _ _ => z_icmp_ge 67 d_X12_before_29 (by decide)) (fun hc2 => ?_) (fun hc2 => ?_)
  · refine qy (fun _ _ k9 => z_iconst d_X12_before_67 (by decide) k9) ?_
    refine qy (fun _ _ k9 => z_istore_n (ls' := [qR m, qI (n : Int), qI 0, qU, qU, qU, qU]) d_X12_before_68 rfl (by decide) rfl k9) ?_
    refine qy (fun _ _ k9 => z_eq (qc rfl (qc rfl (qc (qi (by omega)) (qc rfl (qc rfl (qc rfl (qc rfl rfl))))))) rfl rfl k9) (y_wh2 (fun (i : Nat) (x2 : Nat → Nat → Int) => n - i) (fun (i : Nat) (x2 : Nat → Nat → Int) => [qR m, qI (n : Int), qI (i : Int), qU, qU, qU, qU]) (fun (i : Nat) (x2 : Nat → Nat → Int) => (rput h m f x2)) (fun (i : Nat) (x2 : Nat → Nat → Int) => i ≤ n ∧ sq g x2 ∧ (∀ c, c < 648 → x2 25 c = (ownT g) c) ∧ ∀ j, j < 81 → x2 32 j = (wL (ownT g) (g 11) n i) j) 0 x (⟨by omega, hs, hT, fun j hj => hW j (by omega)⟩) (fun i x2 hpi kki => ?_))
    obtain ⟨hi, hs2, hT2, hW2⟩ := hpi
    show qEy M_X12_before 69 [qR m, qI (n : Int), qI (i : Int), qU, qU, qU, qU] [] (rput h m f x2) Q
    refine qy (fun _ _ k9 => z_iload_n d_X12_before_69 rfl rfl k9) ?_
    refine qy (fun _ _ k9 => z_iload_n d_X12_before_70 rfl rfl k9) ?_
    refine qy2 (fun _ _ => z_icmp_ge 279 d_X12_before_71 (by decide)) (fun hc3 => ?_) (fun hc3 => ?_)
    · refine qy (fun _ _ k9 => z_lconst d_X12_before_279 (z := 0) (by decide) k9) ?_
      refine qy (fun _ _ k9 => z_lstore_n (ls' := [qR m, qI (n : Int), qL 0, qU, qU, qU, qU]) d_X12_before_280 rfl (by decide) rfl k9) ?_
      refine qy (fun _ _ k9 => z_iconst d_X12_before_281 (by decide) k9) ?_
      refine qy (fun _ _ k9 => z_istore (ls' := [qR m, qI (n : Int), qL 0, qU, qI 0, qU, qU]) d_X12_before_282 (by decide) rfl k9) ?_
      refine qy (fun _ _ k9 => z_eq (qc rfl (qc rfl (qc (ql (rfl)) (qc rfl (qc (qi (by omega)) (qc rfl (qc rfl rfl))))))) rfl rfl k9) (y_wh1 (fun (b8 : Nat) => 8 - b8) (fun (b8 : Nat) => [qR m, qI (n : Int), qL (wS (ownT g) (g 11) n b8), qU, qI (b8 : Int), qU, qU]) (fun (b8 : Nat) => (rput h m f x2)) (fun (b8 : Nat) => b8 ≤ 8) 0 (Nat.zero_le 8) (fun b8 hb8 kk8 => ?_))
      show qEy M_X12_before 284 [qR m, qI (n : Int), qL (wS (ownT g) (g 11) n b8), qU, qI (b8 : Int), qU, qU] [] (rput h m f x2) Q
      have hSb := wS_bd (T := (ownT g)) (M := (g 11)) (n := n) b8
      have hWb := wL_bd (T := (ownT g)) (M := (g 11)) (n := n) n (9 * b8 + 8)
      refine qy (fun _ _ k9 => z_iload d_X12_before_284 rfl k9) ?_
      refine qy (fun _ _ k9 => z_bipush d_X12_before_286 (by decide) k9) ?_
      refine qy2 (fun _ _ => z_icmp_ge 313 d_X12_before_288 (by decide)) (fun hc4 => ?_) (fun hc4 => ?_)
      · refine qy (fun _ _ k9 => z_lload_n d_X12_before_313 rfl rfl k9) ?_
        refine qy (fun _ _ k9 => z_ldc2 (n := 1000000007) d_X12_before_314 cq_X12_381 (by decide) (by decide) k9) ?_
        refine qy (fun _ _ k9 => z_lrem d_X12_before_317 (by omega) k9) ?_
        have hSb := wS_bd (T := (ownT g)) (M := (g 11)) (n := n) 8
        refine qy (fun _ _ k9 => z_eq rfl (qc (ql (show (Int.tmod (wS (ownT g) (g 11) n b8) 1000000007) = ((wS (ownT g) (g 11) n 8) % 1000000007) from by rw [show b8 = 8 by omega]; exact Int.tmod_eq_emod_of_nonneg (by omega))) rfl) rfl k9) ?_
        refine qy (fun _ _ k9 => z_l2i d_X12_before_318 k9) ?_
        refine qy (fun _ _ k9 => z_eq rfl (qc (qi (show (qL2i ((wS (ownT g) (g 11) n 8) % 1000000007)) = ((wS (ownT g) (g 11) n 8) % 1000000007) from qL2i_id ⟨by omega, by omega⟩)) rfl) rfl k9) ?_
        exact y_ret (hQ x2 hs2) (z_iret d_X12_before_319 rfl rfl rfl)
      · refine qy (fun _ _ k9 => z_lload_n d_X12_before_291 rfl rfl k9) ?_
        refine qy (fun _ _ k9 => z_aload_n d_X12_before_292 rfl rfl k9) ?_
        refine qy (fun _ _ k9 => z_getf (v := qR (m + 32)) d_X12_before_293 fl_X12_108 rput_o rfl k9) ?_
        refine qy (fun _ _ k9 => z_bipush d_X12_before_296 (by decide) k9) ?_
        refine qy (fun _ _ k9 => z_iload d_X12_before_298 rfl k9) ?_
        refine qy (fun _ _ k9 => z_imul d_X12_before_300 (by omega) k9) ?_
        refine qy (fun _ _ k9 => z_bipush d_X12_before_301 (by decide) k9) ?_
        refine qy (fun _ _ k9 => z_iadd d_X12_before_303 (by omega) k9) ?_
        refine qy (fun _ _ k9 => z_lld ((9 * b8) + 8) d_X12_before_304 (rput_a2 32 (t := 1) (n := 81) (F := (x2 32)) rfl rfl rfl (by decide) (by decide)) rfl (by omega) k9) ?_
        refine qy (fun _ _ k9 => z_eq rfl (qc (ql (show ((x2 32) ((9 * b8) + 8)) = ((wL (ownT g) (g 11) n n) (9 * b8 + 8)) from by rw [hW2 _ (by omega), show i = n by omega])) rfl) rfl k9) ?_
        refine qy (fun _ _ k9 => z_ladd d_X12_before_305 (by omega) k9) ?_
        refine qy (fun _ _ k9 => z_lstore_n (ls' := [qR m, qI (n : Int), qL ((wS (ownT g) (g 11) n b8) + ((wL (ownT g) (g 11) n n) (9 * b8 + 8))), qU, qI (b8 : Int), qU, qU]) d_X12_before_306 rfl (by decide) rfl k9) ?_
        refine qy (fun _ _ k9 => z_iinc (ls' := [qR m, qI (n : Int), qL ((wS (ownT g) (g 11) n b8) + ((wL (ownT g) (g 11) n n) (9 * b8 + 8))), qU, qI ((b8 : Int) + 1), qU, qU]) d_X12_before_307 rfl (by decide) (by omega) rfl k9) ?_
        refine qy (fun _ _ k9 => z_goto 284 d_X12_before_310 (by decide) k9) ?_
        exact qy (fun _ _ k9 => z_eq (qc rfl (qc rfl (qc (ql (rfl)) (qc rfl (qc (qi (by omega)) (qc rfl (qc rfl rfl))))))) rfl rfl k9) (kk8 (b8 + 1) (by omega) (by omega))
    · refine qy (fun _ _ k9 => z_iconst d_X12_before_74 (by decide) k9) ?_
      refine qy (fun _ _ k9 => z_istore_n (ls' := [qR m, qI (n : Int), qI (i : Int), qI 0, qU, qU, qU]) d_X12_before_75 rfl (by decide) rfl k9) ?_
      refine qy (fun _ _ k9 => z_eq (qc rfl (qc rfl (qc rfl (qc (qi (by omega)) (qc rfl (qc rfl (qc rfl rfl))))))) rfl rfl k9) (y_wh2 (fun (k3 : Nat) (x3 : Nat → Nat → Int) => 81 - k3) (fun (k3 : Nat) (x3 : Nat → Nat → Int) => [qR m, qI (n : Int), qI (i : Int), qI (k3 : Int), qU, qU, qU]) (fun (k3 : Nat) (x3 : Nat → Nat → Int) => (rput h m f x3)) (fun (k3 : Nat) (x3 : Nat → Nat → Int) => k3 ≤ 81 ∧ sq g x3 ∧ (∀ c, c < 648 → x3 25 c = (ownT g) c) ∧ (∀ j, j < 81 → x3 32 j = (wL (ownT g) (g 11) n i) j) ∧ ∀ j, j < k3 → x3 33 j = 0) 0 x2 (⟨by omega, hs2, hT2, hW2, fun j hj => absurd hj (by omega)⟩) (fun k3 x3 hp3 kk3 => ?_))
      obtain ⟨hk3, hs3, hT3, hW3, hZ3⟩ := hp3
      show qEy M_X12_before 76 [qR m, qI (n : Int), qI (i : Int), qI (k3 : Int), qU, qU, qU] [] (rput h m f x3) Q
      refine qy (fun _ _ k9 => z_iload_n d_X12_before_76 rfl rfl k9) ?_
      refine qy (fun _ _ k9 => z_bipush d_X12_before_77 (by decide) k9) ?_
      refine qy2 (fun _ _ => z_icmp_ge 95 d_X12_before_79 (by decide)) (fun hc5 => ?_) (fun hc5 => ?_)
      · refine qy (fun _ _ k9 => z_iconst d_X12_before_95 (by decide) k9) ?_
        refine qy (fun _ _ k9 => z_istore_n (ls' := [qR m, qI (n : Int), qI (i : Int), qI 0, qU, qU, qU]) d_X12_before_96 rfl (by decide) rfl k9) ?_
        refine qy (fun _ _ k9 => z_eq (qc rfl (qc rfl (qc rfl (qc (qi (by omega)) (qc rfl (qc rfl (qc rfl rfl))))))) rfl rfl k9) (y_wh2 (fun (k4 : Nat) (x4 : Nat → Nat → Int) => 81 - k4) (fun (k4 : Nat) (x4 : Nat → Nat → Int) => [qR m, qI (n : Int), qI (i : Int), qI (k4 : Int), qU, qU, qU]) (fun (k4 : Nat) (x4 : Nat → Nat → Int) => (rput h m f x4)) (fun (k4 : Nat) (x4 : Nat → Nat → Int) => k4 ≤ 81 ∧ sq g x4 ∧ (∀ c, c < 648 → x4 25 c = (ownT g) c) ∧ (∀ j, j < 81 → x4 32 j = (wL (ownT g) (g 11) n i) j) ∧ ∀ j, j < 81 → x4 33 j = wO (ownT g) (wL (ownT g) (g 11) n i) ((g 11) i) (i + 1 = n) k4 0 j) 0 x3 (⟨by omega, hs3, hT3, hW3, fun j hj => (hZ3 j (by omega)).trans (by unfold wO ac; rw [if_neg (by omega)]; exact qif_same.symm)⟩) (fun k4 x4 hp4 kk4 => ?_))
        obtain ⟨hk4, hs4, hT4, hW4, hY4⟩ := hp4
        show qEy M_X12_before 97 [qR m, qI (n : Int), qI (i : Int), qI (k4 : Int), qU, qU, qU] [] (rput h m f x4) Q
        refine qy (fun _ _ k9 => z_iload_n d_X12_before_97 rfl rfl k9) ?_
        refine qy (fun _ _ k9 => z_bipush d_X12_before_98 (by decide) k9) ?_
        refine qy2 (fun _ _ => z_icmp_ge 247 d_X12_before_100 (by decide)) (fun hc6 => ?_) (fun hc6 => ?_)
        · refine qy (fun _ _ k9 => z_iconst d_X12_before_247 (by decide) k9) ?_
          refine qy (fun _ _ k9 => z_istore_n (ls' := [qR m, qI (n : Int), qI (i : Int), qI 0, qU, qU, qU]) d_X12_before_248 rfl (by decide) rfl k9) ?_
          refine qy (fun _ _ k9 => z_eq (qc rfl (qc rfl (qc rfl (qc (qi (by omega)) (qc rfl (qc rfl (qc rfl rfl))))))) rfl rfl k9) (y_wh2 (fun (k7 : Nat) (x7 : Nat → Nat → Int) => 81 - k7) (fun (k7 : Nat) (x7 : Nat → Nat → Int) => [qR m, qI (n : Int), qI (i : Int), qI (k7 : Int), qU, qU, qU]) (fun (k7 : Nat) (x7 : Nat → Nat → Int) => (rput h m f x7)) (fun (k7 : Nat) (x7 : Nat → Nat → Int) => k7 ≤ 81 ∧ sq g x7 ∧ (∀ c, c < 648 → x7 25 c = (ownT g) c) ∧ (∀ j, j < 81 → x7 33 j = (wL (ownT g) (g 11) n (i + 1)) j) ∧ ∀ j, j < k7 → x7 32 j = (wL (ownT g) (g 11) n (i + 1)) j) 0 x4 (⟨by omega, hs4, hT4, fun j hj => by rw [hY4 j hj, show k4 = 81 by omega]; rfl, fun j hj => absurd hj (by omega)⟩) (fun k7 x7 hp7 kk7 => ?_))
          obtain ⟨hk7, hs7, hT7, hZ7, hY7⟩ := hp7
          show qEy M_X12_before 249 [qR m, qI (n : Int), qI (i : Int), qI (k7 : Int), qU, qU, qU] [] (rput h m f x7) Q
          refine qy (fun _ _ k9 => z_iload_n d_X12_before_249 rfl rfl k9) ?_
          refine qy (fun _ _ k9 => z_bipush d_X12_before_250 (by decide) k9) ?_
          refine qy2 (fun _ _ => z_icmp_ge 273 d_X12_before_252 (by decide)) (fun hc7 => ?_) (fun hc7 => ?_)
          · refine qy (fun _ _ k9 => z_iinc (ls' := [qR m, qI (n : Int), qI ((i : Int) + 1), qI (k7 : Int), qU, qU, qU]) d_X12_before_273 rfl (by decide) (by omega) rfl k9) ?_
            refine qy (fun _ _ k9 => z_goto 69 d_X12_before_276 (by decide) k9) ?_
            exact qy (fun _ _ k9 => z_dr (qle_k rfl (qle_k rfl (qle_k (qi (by omega)) (qle_d (qle_k rfl (qle_k rfl (qle_k rfl qle_n))))))) rfl rfl k9) (kki (i + 1) x7 (⟨by omega, hs7, hT7, fun j hj => hY7 j (by omega)⟩) (by omega))
          · refine qy (fun _ _ k9 => z_aload_n d_X12_before_255 rfl rfl k9) ?_
            refine qy (fun _ _ k9 => z_getf (v := qR (m + 32)) d_X12_before_256 fl_X12_108 rput_o rfl k9) ?_
            refine qy (fun _ _ k9 => z_iload_n d_X12_before_259 rfl rfl k9) ?_
            refine qy (fun _ _ k9 => z_aload_n d_X12_before_260 rfl rfl k9) ?_
            refine qy (fun _ _ k9 => z_getf (v := qR (m + 33)) d_X12_before_261 fl_X12_112 rput_o rfl k9) ?_
            refine qy (fun _ _ k9 => z_iload_n d_X12_before_264 rfl rfl k9) ?_
            refine qy (fun _ _ k9 => z_lld k7 d_X12_before_265 (rput_a2 33 (t := 1) (n := 81) (F := (x7 33)) rfl rfl rfl (by decide) (by decide)) rfl (by omega) k9) ?_
            refine qy (fun _ _ k9 => z_lst k7 d_X12_before_266 (rput_a2 32 (t := 1) (n := 81) (F := (x7 32)) rfl rfl rfl (by decide) (by decide)) (by omega) rfl (by omega) k9) ?_
            refine qy (fun _ _ k9 => z_eq rfl rfl (rput_sa 32 rfl rfl (by decide) (by decide)) k9) ?_
            refine qy (fun _ _ k9 => z_iinc (ls' := [qR m, qI (n : Int), qI (i : Int), qI ((k7 : Int) + 1), qU, qU, qU]) d_X12_before_267 rfl (by decide) (by omega) rfl k9) ?_
            refine qy (fun _ _ k9 => z_goto 249 d_X12_before_270 (by decide) k9) ?_
            exact qy (fun _ _ k9 => z_eq (qc rfl (qc rfl (qc rfl (qc (qi (by omega)) (qc rfl (qc rfl (qc rfl rfl))))))) rfl rfl k9) (kk7 (k7 + 1) (gup x7 32 (qup (x7 32) k7 ((x7 33) k7))) (⟨by omega, (sq_up hs7 (by decide)), hT7, hZ7, fun j hj => if e : j = k7 then (by show qup (x7 32) k7 _ j = _; rw [e, qup_eq]; exact hZ7 k7 (by omega)) else (by show qup (x7 32) k7 _ j = _; rw [qup_ne e]; exact hY7 j (by omega))⟩) (by omega))
        · refine qy (fun _ _ k9 => z_iload_n d_X12_before_103 rfl rfl k9) ?_
          refine qy (fun _ _ k9 => z_bipush d_X12_before_104 (by decide) k9) ?_
          refine qy (fun _ _ k9 => z_idiv d_X12_before_106 (by omega) k9) ?_
          refine qy (fun _ _ k9 => z_eq rfl (qc (qi (by rw [Int.tdiv_eq_ediv_of_nonneg (by omega)] <;> omega)) rfl) rfl k9) ?_
          refine qy (fun _ _ k9 => z_istore (ls' := [qR m, qI (n : Int), qI (i : Int), qI (k4 : Int), qI (((k4 / 9) : Nat) : Int), qU, qU]) d_X12_before_107 (by decide) rfl k9) ?_
          refine qy (fun _ _ k9 => z_iload_n d_X12_before_109 rfl rfl k9) ?_
          refine qy (fun _ _ k9 => z_bipush d_X12_before_110 (by decide) k9) ?_
          refine qy (fun _ _ k9 => z_irem d_X12_before_112 (by omega) k9) ?_
          refine qy (fun _ _ k9 => z_eq rfl (qc (qi (by rw [Int.tmod_eq_emod_of_nonneg (by omega)] <;> omega)) rfl) rfl k9) ?_
          refine qy (fun _ _ k9 => z_istore (ls' := [qR m, qI (n : Int), qI (i : Int), qI (k4 : Int), qI (((k4 / 9) : Nat) : Int), qI (((k4 % 9) : Nat) : Int), qU]) d_X12_before_113 (by decide) rfl k9) ?_
          refine qy (fun _ _ k9 => z_iconst d_X12_before_115 (by decide) k9) ?_
          refine qy (fun _ _ k9 => z_istore (ls' := [qR m, qI (n : Int), qI (i : Int), qI (k4 : Int), qI (((k4 / 9) : Nat) : Int), qI (((k4 % 9) : Nat) : Int), qI 0]) d_X12_before_116 (by decide) rfl k9) ?_
          refine qy (fun _ _ k9 => z_eq (qc rfl (qc rfl (qc rfl (qc rfl (qc rfl (qc rfl (qc (qi (by omega)) rfl))))))) rfl rfl k9) (y_wh2 (fun (c5 : Nat) (x5 : Nat → Nat → Int) => 9 - c5) (fun (c5 : Nat) (x5 : Nat → Nat → Int) => [qR m, qI (n : Int), qI (i : Int), qI (k4 : Int), qI (((k4 / 9) : Nat) : Int), qI (((k4 % 9) : Nat) : Int), qI (c5 : Int)]) (fun (c5 : Nat) (x5 : Nat → Nat → Int) => (rput h m f x5)) (fun (c5 : Nat) (x5 : Nat → Nat → Int) => c5 ≤ 9 ∧ sq g x5 ∧ (∀ c, c < 648 → x5 25 c = (ownT g) c) ∧ (∀ j, j < 81 → x5 32 j = (wL (ownT g) (g 11) n i) j) ∧ ∀ j, j < 81 → x5 33 j = wO (ownT g) (wL (ownT g) (g 11) n i) ((g 11) i) (i + 1 = n) k4 c5 j) 0 x4 (⟨by omega, hs4, hT4, hW4, hY4⟩) (fun c5 x5 hp5 kk5 => ?_))
          obtain ⟨hc5, hs5, hT5, hW5, hY5⟩ := hp5
          show qEy M_X12_before 118 [qR m, qI (n : Int), qI (i : Int), qI (k4 : Int), qI (((k4 / 9) : Nat) : Int), qI (((k4 % 9) : Nat) : Int), qI (c5 : Int)] [] (rput h m f x5) Q
          have hWb := wL_bd (T := (ownT g)) (M := (g 11)) (n := n) i k4
          refine qy (fun _ _ k9 => z_iload d_X12_before_118 rfl k9) ?_
          refine qy (fun _ _ k9 => z_bipush d_X12_before_120 (by decide) k9) ?_
          refine qy2 (fun _ _ => z_icmp_ge 241 d_X12_before_122 (by decide)) (fun hc8 => ?_) (fun hc8 => ?_)
          · try have hw8 : (wL (ownT g) (g 11) n i) k4 = 0 := by by_cases q9 : (wL (ownT g) (g 11) n i) k4 > 0; (rw [if_pos q9] at hw9; exact absurd hw9 (by decide)); omega
            refine qy (fun _ _ k9 => z_iinc (ls' := [qR m, qI (n : Int), qI (i : Int), qI ((k4 : Int) + 1), qI (((k4 / 9) : Nat) : Int), qI (((k4 % 9) : Nat) : Int), qI (c5 : Int)]) d_X12_before_241 rfl (by decide) (by omega) rfl k9) ?_
            refine qy (fun _ _ k9 => z_goto 97 d_X12_before_244 (by decide) k9) ?_
            exact qy (fun _ _ k9 => z_dr (qle_k rfl (qle_k rfl (qle_k rfl (qle_k (qi (by omega)) (qle_d (qle_d (qle_d qle_n))))))) rfl rfl k9) (kk4 (k4 + 1) x5 (⟨by omega, hs5, hT5, hW5, fun j hj => (hY5 j hj).trans (by first | (rw [show c5 = 9 by omega]; exact wO_end (by omega) hj) | exact (wO_skip hj (by omega) (Or.inr hw8)).trans (wO_end (by omega) hj) | exact (wO_skip hj (by omega) (Or.inl (by omega))).trans (wO_end (by omega) hj))⟩) (by omega))
          · refine qy (fun _ _ k9 => z_aload_n d_X12_before_125 rfl rfl k9) ?_
            refine qy (fun _ _ k9 => z_getf (v := qR (m + 32)) d_X12_before_126 fl_X12_108 rput_o rfl k9) ?_
            refine qy (fun _ _ k9 => z_iload_n d_X12_before_129 rfl rfl k9) ?_
            refine qy (fun _ _ k9 => z_lld k4 d_X12_before_130 (rput_a2 32 (t := 1) (n := 81) (F := (x5 32)) rfl rfl rfl (by decide) (by decide)) rfl (by omega) k9) ?_
            refine qy (fun _ _ k9 => z_eq rfl (qc (ql (show ((x5 32) k4) = ((wL (ownT g) (g 11) n i) k4) from hW5 k4 (by omega))) rfl) rfl k9) ?_
            refine qy (fun _ _ k9 => z_lconst d_X12_before_131 (z := 0) (by decide) k9) ?_
            refine qy (fun _ _ k9 => z_lcmp d_X12_before_132 k9) ?_
            refine qy2 (fun _ _ => z_if_le 241 d_X12_before_133 (by decide)) (fun hw9 => ?_) (fun hw9 => ?_)
            · try have hw8 : (wL (ownT g) (g 11) n i) k4 = 0 := by by_cases q9 : (wL (ownT g) (g 11) n i) k4 > 0; (rw [if_pos q9] at hw9; exact absurd hw9 (by decide)); omega
              refine qy (fun _ _ k9 => z_iinc (ls' := [qR m, qI (n : Int), qI (i : Int), qI ((k4 : Int) + 1), qI (((k4 / 9) : Nat) : Int), qI (((k4 % 9) : Nat) : Int), qI (c5 : Int)]) d_X12_before_241 rfl (by decide) (by omega) rfl k9) ?_
              refine qy (fun _ _ k9 => z_goto 97 d_X12_before_244 (by decide) k9) ?_
              exact qy (fun _ _ k9 => z_dr (qle_k rfl (qle_k rfl (qle_k rfl (qle_k (qi (by omega)) (qle_d (qle_d (qle_d qle_n))))))) rfl rfl k9) (kk4 (k4 + 1) x5 (⟨by omega, hs5, hT5, hW5, fun j hj => (hY5 j hj).trans (by first | (rw [show c5 = 9 by omega]; exact wO_end (by omega) hj) | exact (wO_skip hj (by omega) (Or.inr hw8)).trans (wO_end (by omega) hj) | exact (wO_skip hj (by omega) (Or.inl (by omega))).trans (wO_end (by omega) hj))⟩) (by omega))
            · refine qy (fun _ _ k9 => z_iload d_X12_before_136 rfl k9) ?_
              refine qy (fun _ _ k9 => z_bipush d_X12_before_138 (by decide) k9) ?_
              refine qy2 (fun _ _ => z_icmp_eq 241 d_X12_before_140 (by decide)) (fun hc9 => ?_) (fun hc9 => ?_)
              · try have hw8 : (wL (ownT g) (g 11) n i) k4 = 0 := by by_cases q9 : (wL (ownT g) (g 11) n i) k4 > 0; (rw [if_pos q9] at hw9; exact absurd hw9 (by decide)); omega
                refine qy (fun _ _ k9 => z_iinc (ls' := [qR m, qI (n : Int), qI (i : Int), qI ((k4 : Int) + 1), qI (((k4 / 9) : Nat) : Int), qI (((k4 % 9) : Nat) : Int), qI (c5 : Int)]) d_X12_before_241 rfl (by decide) (by omega) rfl k9) ?_
                refine qy (fun _ _ k9 => z_goto 97 d_X12_before_244 (by decide) k9) ?_
                exact qy (fun _ _ k9 => z_dr (qle_k rfl (qle_k rfl (qle_k rfl (qle_k (qi (by omega)) (qle_d (qle_d (qle_d qle_n))))))) rfl rfl k9) (kk4 (k4 + 1) x5 (⟨by omega, hs5, hT5, hW5, fun j hj => (hY5 j hj).trans (by first | (rw [show c5 = 9 by omega]; exact wO_end (by omega) hj) | exact (wO_skip hj (by omega) (Or.inr hw8)).trans (wO_end (by omega) hj) | exact (wO_skip hj (by omega) (Or.inl (by omega))).trans (wO_end (by omega) hj))⟩) (by omega))
              · refine qy (fun _ _ k9 => z_iload d_X12_before_143 rfl k9) ?_
                refine qy (fun _ _ k9 => z_bipush d_X12_before_145 (by decide) k9) ?_
                refine qy2 (fun _ _ => z_icmp_ne 154 d_X12_before_147 (by decide)) (fun hc10 => ?_) (fun hc10 => ?_)
                · refine qy (fun _ _ k9 => z_iconst d_X12_before_154 (by decide) k9) ?_
                  refine qy (fun _ _ k9 => z_iload_n d_X12_before_155 rfl rfl k9) ?_
                  refine qy (fun _ _ k9 => z_iload_n d_X12_before_156 rfl rfl k9) ?_
                  refine qy (fun _ _ k9 => z_iconst d_X12_before_157 (by decide) k9) ?_
                  refine qy (fun _ _ k9 => z_isub d_X12_before_158 (by omega) k9) ?_
                  refine qy2 (fun _ _ => z_icmp_ne 166 d_X12_before_159 (by decide)) (fun hc11 => ?_) (fun hc11 => ?_)
                  · refine qy (fun _ _ k9 => z_iconst d_X12_before_166 (by decide) k9) ?_
                    refine qy2 (fun _ _ => z_icmp_ne 235 d_X12_before_167 (by decide)) (fun hc12 => absurd hc12 (by decide)) (fun hc12 => ?_)
                    refine qy (fun _ _ k9 => z_aload_n d_X12_before_170 rfl rfl k9) ?_
                    refine qy (fun _ _ k9 => z_getf (v := qR (m + 25)) d_X12_before_171 fl_X12_86 rput_o rfl k9) ?_
                    refine qy (fun _ _ k9 => z_iload d_X12_before_174 rfl k9) ?_
                    refine qy (fun _ _ k9 => z_iload d_X12_before_176 rfl k9) ?_
                    refine qy (fun _ _ k9 => z_iload d_X12_before_178 rfl k9) ?_
                    refine qy (fun _ _ k9 => z_cs (M1 := M_X12_caseOf) d_X12_before_180 ls_X12_263 k_X12_caseOf [qI (((k4 % 9) : Nat) : Int), qI (((k4 / 9) : Nat) : Int), qI (c5 : Int)] rfl rfl (Nat.le_of_ble_eq_true rfl) (by decide) (by decide) (Nat.le_of_ble_eq_true rfl) (c_caseOf2 (((k4 % 9) : Nat) : Int) (((k4 / 9) : Nat) : Int) (c5 : Int) (by omega) (by omega) (by omega)) k9) ?_
                    refine qy (fun _ _ k9 => z_ild (81 * (k4 % 9) + 9 * (k4 / 9) + c5) d_X12_before_183 (rput_a2 25 (t := 0) (n := 648) (F := (x5 25)) rfl rfl rfl (by decide) (by decide)) rfl (by omega) k9) ?_
                    refine qy (fun _ _ k9 => z_eq rfl (qc (qi (show ((x5 25) (81 * (k4 % 9) + 9 * (k4 / 9) + c5)) = ((ownT g) (81 * (k4 % 9) + 9 * (k4 / 9) + c5)) from hT5 _ (by omega))) rfl) rfl k9) ?_
                    refine qy (fun _ _ k9 => z_aload_n d_X12_before_184 rfl rfl k9) ?_
                    refine qy (fun _ _ k9 => z_getf (v := qR (m + 11)) d_X12_before_185 fl_X12_44 rput_o rfl k9) ?_
                    refine qy (fun _ _ k9 => z_iconst d_X12_before_188 (by decide) k9) ?_
                    refine qy (fun _ _ k9 => z_iload_n d_X12_before_189 rfl rfl k9) ?_
                    refine qy (fun _ _ k9 => z_iadd d_X12_before_190 (by omega) k9) ?_
                    refine qy (fun _ _ k9 => z_ild i d_X12_before_191 (rput_a2 11 (t := 0) (n := 167) (F := (x5 11)) rfl rfl rfl (by decide) (by decide)) (by omega) (by omega) k9) ?_
                    refine qy (fun _ _ k9 => z_eq rfl (qc (qi (show ((x5 11) i) = ((g 11) i) from by rw [hs5 11 (by decide) (by decide)])) rfl) rfl k9) ?_
                    refine qy2 (fun _ _ => z_icmp_eq 198 d_X12_before_192 (by decide)) (fun ht9 => ?_) (fun ht9 => ?_)
                    · have hYb := wO_bd (T := (ownT g)) (W := (wL (ownT g) (g 11) n i)) (mi := (g 11) i) (last := i + 1 = n) (k := k4) (c := c5) (j := (9 * (k4 % 9) + c5))
                      have hYj := hY5 (9 * (k4 % 9) + c5) (by omega)
                      refine qy (fun _ _ k9 => z_aload_n d_X12_before_198 rfl rfl k9) ?_
                      refine qy (fun _ _ k9 => z_getf (v := qR (m + 33)) d_X12_before_199 fl_X12_112 rput_o rfl k9) ?_
                      refine qy (fun _ _ k9 => z_bipush d_X12_before_202 (by decide) k9) ?_
                      refine qy (fun _ _ k9 => z_iload d_X12_before_204 rfl k9) ?_
                      refine qy (fun _ _ k9 => z_imul d_X12_before_206 (by omega) k9) ?_
                      refine qy (fun _ _ k9 => z_iload d_X12_before_207 rfl k9) ?_
                      refine qy (fun _ _ k9 => z_iadd d_X12_before_209 (by omega) k9) ?_
                      refine qy (fun _ _ k9 => z_aload_n d_X12_before_210 rfl rfl k9) ?_
                      refine qy (fun _ _ k9 => z_getf (v := qR (m + 33)) d_X12_before_211 fl_X12_112 rput_o rfl k9) ?_
                      refine qy (fun _ _ k9 => z_bipush d_X12_before_214 (by decide) k9) ?_
                      refine qy (fun _ _ k9 => z_iload d_X12_before_216 rfl k9) ?_
                      refine qy (fun _ _ k9 => z_imul d_X12_before_218 (by omega) k9) ?_
                      refine qy (fun _ _ k9 => z_iload d_X12_before_219 rfl k9) ?_
                      refine qy (fun _ _ k9 => z_iadd d_X12_before_221 (by omega) k9) ?_
                      refine qy (fun _ _ k9 => z_lld ((9 * (k4 % 9)) + c5) d_X12_before_222 (rput_a2 33 (t := 1) (n := 81) (F := (x5 33)) rfl rfl rfl (by decide) (by decide)) rfl (by omega) k9) ?_
                      refine qy (fun _ _ k9 => z_aload_n d_X12_before_223 rfl rfl k9) ?_
                      refine qy (fun _ _ k9 => z_getf (v := qR (m + 32)) d_X12_before_224 fl_X12_108 rput_o rfl k9) ?_
                      refine qy (fun _ _ k9 => z_iload_n d_X12_before_227 rfl rfl k9) ?_
                      refine qy (fun _ _ k9 => z_lld k4 d_X12_before_228 (rput_a2 32 (t := 1) (n := 81) (F := (x5 32)) rfl rfl rfl (by decide) (by decide)) rfl (by omega) k9) ?_
                      refine qy (fun _ _ k9 => z_eq rfl (qc (ql (show ((x5 32) k4) = ((wL (ownT g) (g 11) n i) k4) from hW5 k4 (by omega))) rfl) rfl k9) ?_
                      refine qy (fun _ _ k9 => z_ladd d_X12_before_229 (by omega) k9) ?_
                      refine qy (fun _ _ k9 => z_ldc2 (n := 1000000007) d_X12_before_230 cq_X12_381 (by decide) (by decide) k9) ?_
                      refine qy (fun _ _ k9 => z_lrem d_X12_before_233 (by omega) k9) ?_
                      refine qy (fun _ _ k9 => z_eq rfl (qc (ql (show (Int.tmod (((x5 33) ((9 * (k4 % 9)) + c5)) + ((wL (ownT g) (g 11) n i) k4)) 1000000007) = ((x5 33 (9 * (k4 % 9) + c5) + (wL (ownT g) (g 11) n i) k4) % 1000000007) from Int.tmod_eq_emod_of_nonneg (by omega))) rfl) rfl k9) ?_
                      refine qy (fun _ _ k9 => z_lst ((9 * (k4 % 9)) + c5) d_X12_before_234 (rput_a2 33 (t := 1) (n := 81) (F := (x5 33)) rfl rfl rfl (by decide) (by decide)) (by omega) rfl (by omega) k9) ?_
                      refine qy (fun _ _ k9 => z_eq rfl rfl (rput_sa 33 rfl rfl (by decide) (by decide)) k9) ?_
                      refine qy (fun _ _ k9 => z_iinc (ls' := [qR m, qI (n : Int), qI (i : Int), qI (k4 : Int), qI (((k4 / 9) : Nat) : Int), qI (((k4 % 9) : Nat) : Int), qI ((c5 : Int) + 1)]) d_X12_before_235 rfl (by decide) (by omega) rfl k9) ?_
                      refine qy (fun _ _ k9 => z_goto 118 d_X12_before_238 (by decide) k9) ?_
                      exact qy (fun _ _ k9 => z_eq (qc rfl (qc rfl (qc rfl (qc rfl (qc rfl (qc rfl (qc (qi (by omega)) rfl))))))) rfl rfl k9) (kk5 (c5 + 1) (gup x5 33 (qup (x5 33) ((9 * (k4 % 9)) + c5) ((x5 33 (9 * (k4 % 9) + c5) + (wL (ownT g) (g 11) n i) k4) % 1000000007))) (⟨by omega, (sq_up hs5 (by decide)), hT5, hW5, fun j hj => wO_yes hY5 (by omega) (by omega) (by omega) ht9 hj⟩) (by omega))
                    · refine qy (fun _ _ k9 => z_goto 235 d_X12_before_195 (by decide) k9) ?_
                      refine qy (fun _ _ k9 => z_iinc (ls' := [qR m, qI (n : Int), qI (i : Int), qI (k4 : Int), qI (((k4 / 9) : Nat) : Int), qI (((k4 % 9) : Nat) : Int), qI ((c5 : Int) + 1)]) d_X12_before_235 rfl (by decide) (by omega) rfl k9) ?_
                      refine qy (fun _ _ k9 => z_goto 118 d_X12_before_238 (by decide) k9) ?_
                      exact qy (fun _ _ k9 => z_eq (qc rfl (qc rfl (qc rfl (qc rfl (qc rfl (qc rfl (qc (qi (by omega)) rfl))))))) rfl rfl k9) (kk5 (c5 + 1) x5 (⟨by omega, hs5, hT5, hW5, fun j hj => (hY5 j hj).trans (wO_no hj (by first | exact Or.inr ht9 | exact Or.inl (by omega)))⟩) (by omega))
                  · refine qy (fun _ _ k9 => z_iconst d_X12_before_162 (by decide) k9) ?_
                    refine qy (fun _ _ k9 => z_goto 167 d_X12_before_163 (by decide) k9) ?_
                    refine qy2 (fun _ _ => z_icmp_ne 235 d_X12_before_167 (by decide)) (fun hc13 => ?_) (fun hc13 => absurd (by decide) hc13)
                    refine qy (fun _ _ k9 => z_iinc (ls' := [qR m, qI (n : Int), qI (i : Int), qI (k4 : Int), qI (((k4 / 9) : Nat) : Int), qI (((k4 % 9) : Nat) : Int), qI ((c5 : Int) + 1)]) d_X12_before_235 rfl (by decide) (by omega) rfl k9) ?_
                    refine qy (fun _ _ k9 => z_goto 118 d_X12_before_238 (by decide) k9) ?_
                    exact qy (fun _ _ k9 => z_eq (qc rfl (qc rfl (qc rfl (qc rfl (qc rfl (qc rfl (qc (qi (by omega)) rfl))))))) rfl rfl k9) (kk5 (c5 + 1) x5 (⟨by omega, hs5, hT5, hW5, fun j hj => (hY5 j hj).trans (wO_no hj (by first | exact Or.inr ht9 | exact Or.inl (by omega)))⟩) (by omega))
                · refine qy (fun _ _ k9 => z_iconst d_X12_before_150 (by decide) k9) ?_
                  refine qy (fun _ _ k9 => z_goto 155 d_X12_before_151 (by decide) k9) ?_
                  refine qy (fun _ _ k9 => z_iload_n d_X12_before_155 rfl rfl k9) ?_
                  refine qy (fun _ _ k9 => z_iload_n d_X12_before_156 rfl rfl k9) ?_
                  refine qy (fun _ _ k9 => z_iconst d_X12_before_157 (by decide) k9) ?_
                  refine qy (fun _ _ k9 => z_isub d_X12_before_158 (by omega) k9) ?_
                  refine qy2 (fun _ _ => z_icmp_ne 166 d_X12_before_159 (by decide)) (fun hc14 => ?_) (fun hc14 => ?_)
                  · refine qy (fun _ _ k9 => z_iconst d_X12_before_166 (by decide) k9) ?_
                    refine qy2 (fun _ _ => z_icmp_ne 235 d_X12_before_167 (by decide)) (fun hc15 => ?_) (fun hc15 => absurd (by decide) hc15)
                    refine qy (fun _ _ k9 => z_iinc (ls' := [qR m, qI (n : Int), qI (i : Int), qI (k4 : Int), qI (((k4 / 9) : Nat) : Int), qI (((k4 % 9) : Nat) : Int), qI ((c5 : Int) + 1)]) d_X12_before_235 rfl (by decide) (by omega) rfl k9) ?_
                    refine qy (fun _ _ k9 => z_goto 118 d_X12_before_238 (by decide) k9) ?_
                    exact qy (fun _ _ k9 => z_eq (qc rfl (qc rfl (qc rfl (qc rfl (qc rfl (qc rfl (qc (qi (by omega)) rfl))))))) rfl rfl k9) (kk5 (c5 + 1) x5 (⟨by omega, hs5, hT5, hW5, fun j hj => (hY5 j hj).trans (wO_no hj (by first | exact Or.inr ht9 | exact Or.inl (by omega)))⟩) (by omega))
                  · refine qy (fun _ _ k9 => z_iconst d_X12_before_162 (by decide) k9) ?_
                    refine qy (fun _ _ k9 => z_goto 167 d_X12_before_163 (by decide) k9) ?_
                    refine qy2 (fun _ _ => z_icmp_ne 235 d_X12_before_167 (by decide)) (fun hc16 => absurd hc16 (by decide)) (fun hc16 => ?_)
                    refine qy (fun _ _ k9 => z_aload_n d_X12_before_170 rfl rfl k9) ?_
                    refine qy (fun _ _ k9 => z_getf (v := qR (m + 25)) d_X12_before_171 fl_X12_86 rput_o rfl k9) ?_
                    refine qy (fun _ _ k9 => z_iload d_X12_before_174 rfl k9) ?_
                    refine qy (fun _ _ k9 => z_iload d_X12_before_176 rfl k9) ?_
                    refine qy (fun _ _ k9 => z_iload d_X12_before_178 rfl k9) ?_
                    refine qy (fun _ _ k9 => z_cs (M1 := M_X12_caseOf) d_X12_before_180 ls_X12_263 k_X12_caseOf [qI (((k4 % 9) : Nat) : Int), qI (((k4 / 9) : Nat) : Int), qI (c5 : Int)] rfl rfl (Nat.le_of_ble_eq_true rfl) (by decide) (by decide) (Nat.le_of_ble_eq_true rfl) (c_caseOf2 (((k4 % 9) : Nat) : Int) (((k4 / 9) : Nat) : Int) (c5 : Int) (by omega) (by omega) (by omega)) k9) ?_
                    refine qy (fun _ _ k9 => z_ild (81 * (k4 % 9) + 9 * (k4 / 9) + c5) d_X12_before_183 (rput_a2 25 (t := 0) (n := 648) (F := (x5 25)) rfl rfl rfl (by decide) (by decide)) rfl (by omega) k9) ?_
                    refine qy (fun _ _ k9 => z_eq rfl (qc (qi (show ((x5 25) (81 * (k4 % 9) + 9 * (k4 / 9) + c5)) = ((ownT g) (81 * (k4 % 9) + 9 * (k4 / 9) + c5)) from hT5 _ (by omega))) rfl) rfl k9) ?_
                    refine qy (fun _ _ k9 => z_aload_n d_X12_before_184 rfl rfl k9) ?_
                    refine qy (fun _ _ k9 => z_getf (v := qR (m + 11)) d_X12_before_185 fl_X12_44 rput_o rfl k9) ?_
                    refine qy (fun _ _ k9 => z_iconst d_X12_before_188 (by decide) k9) ?_
                    refine qy (fun _ _ k9 => z_iload_n d_X12_before_189 rfl rfl k9) ?_
                    refine qy (fun _ _ k9 => z_iadd d_X12_before_190 (by omega) k9) ?_
                    refine qy (fun _ _ k9 => z_ild i d_X12_before_191 (rput_a2 11 (t := 0) (n := 167) (F := (x5 11)) rfl rfl rfl (by decide) (by decide)) (by omega) (by omega) k9) ?_
                    refine qy (fun _ _ k9 => z_eq rfl (qc (qi (show ((x5 11) i) = ((g 11) i) from by rw [hs5 11 (by decide) (by decide)])) rfl) rfl k9) ?_
                    refine qy2 (fun _ _ => z_icmp_eq 198 d_X12_before_192 (by decide)) (fun ht9 => ?_) (fun ht9 => ?_)
                    · have hYb := wO_bd (T := (ownT g)) (W := (wL (ownT g) (g 11) n i)) (mi := (g 11) i) (last := i + 1 = n) (k := k4) (c := c5) (j := (9 * (k4 % 9) + c5))
                      have hYj := hY5 (9 * (k4 % 9) + c5) (by omega)
                      refine qy (fun _ _ k9 => z_aload_n d_X12_before_198 rfl rfl k9) ?_
                      refine qy (fun _ _ k9 => z_getf (v := qR (m + 33)) d_X12_before_199 fl_X12_112 rput_o rfl k9) ?_
                      refine qy (fun _ _ k9 => z_bipush d_X12_before_202 (by decide) k9) ?_
                      refine qy (fun _ _ k9 => z_iload d_X12_before_204 rfl k9) ?_
                      refine qy (fun _ _ k9 => z_imul d_X12_before_206 (by omega) k9) ?_
                      refine qy (fun _ _ k9 => z_iload d_X12_before_207 rfl k9) ?_
                      refine qy (fun _ _ k9 => z_iadd d_X12_before_209 (by omega) k9) ?_
                      refine qy (fun _ _ k9 => z_aload_n d_X12_before_210 rfl rfl k9) ?_
                      refine qy (fun _ _ k9 => z_getf (v := qR (m + 33)) d_X12_before_211 fl_X12_112 rput_o rfl k9) ?_
                      refine qy (fun _ _ k9 => z_bipush d_X12_before_214 (by decide) k9) ?_
                      refine qy (fun _ _ k9 => z_iload d_X12_before_216 rfl k9) ?_
                      refine qy (fun _ _ k9 => z_imul d_X12_before_218 (by omega) k9) ?_
                      refine qy (fun _ _ k9 => z_iload d_X12_before_219 rfl k9) ?_
                      refine qy (fun _ _ k9 => z_iadd d_X12_before_221 (by omega) k9) ?_
                      refine qy (fun _ _ k9 => z_lld ((9 * (k4 % 9)) + c5) d_X12_before_222 (rput_a2 33 (t := 1) (n := 81) (F := (x5 33)) rfl rfl rfl (by decide) (by decide)) rfl (by omega) k9) ?_
                      refine qy (fun _ _ k9 => z_aload_n d_X12_before_223 rfl rfl k9) ?_
                      refine qy (fun _ _ k9 => z_getf (v := qR (m + 32)) d_X12_before_224 fl_X12_108 rput_o rfl k9) ?_
                      refine qy (fun _ _ k9 => z_iload_n d_X12_before_227 rfl rfl k9) ?_
                      refine qy (fun _ _ k9 => z_lld k4 d_X12_before_228 (rput_a2 32 (t := 1) (n := 81) (F := (x5 32)) rfl rfl rfl (by decide) (by decide)) rfl (by omega) k9) ?_
                      refine qy (fun _ _ k9 => z_eq rfl (qc (ql (show ((x5 32) k4) = ((wL (ownT g) (g 11) n i) k4) from hW5 k4 (by omega))) rfl) rfl k9) ?_
                      refine qy (fun _ _ k9 => z_ladd d_X12_before_229 (by omega) k9) ?_
                      refine qy (fun _ _ k9 => z_ldc2 (n := 1000000007) d_X12_before_230 cq_X12_381 (by decide) (by decide) k9) ?_
                      refine qy (fun _ _ k9 => z_lrem d_X12_before_233 (by omega) k9) ?_
                      refine qy (fun _ _ k9 => z_eq rfl (qc (ql (show (Int.tmod (((x5 33) ((9 * (k4 % 9)) + c5)) + ((wL (ownT g) (g 11) n i) k4)) 1000000007) = ((x5 33 (9 * (k4 % 9) + c5) + (wL (ownT g) (g 11) n i) k4) % 1000000007) from Int.tmod_eq_emod_of_nonneg (by omega))) rfl) rfl k9) ?_
                      refine qy (fun _ _ k9 => z_lst ((9 * (k4 % 9)) + c5) d_X12_before_234 (rput_a2 33 (t := 1) (n := 81) (F := (x5 33)) rfl rfl rfl (by decide) (by decide)) (by omega) rfl (by omega) k9) ?_
                      refine qy (fun _ _ k9 => z_eq rfl rfl (rput_sa 33 rfl rfl (by decide) (by decide)) k9) ?_
                      refine qy (fun _ _ k9 => z_iinc (ls' := [qR m, qI (n : Int), qI (i : Int), qI (k4 : Int), qI (((k4 / 9) : Nat) : Int), qI (((k4 % 9) : Nat) : Int), qI ((c5 : Int) + 1)]) d_X12_before_235 rfl (by decide) (by omega) rfl k9) ?_
                      refine qy (fun _ _ k9 => z_goto 118 d_X12_before_238 (by decide) k9) ?_
                      exact qy (fun _ _ k9 => z_eq (qc rfl (qc rfl (qc rfl (qc rfl (qc rfl (qc rfl (qc (qi (by omega)) rfl))))))) rfl rfl k9) (kk5 (c5 + 1) (gup x5 33 (qup (x5 33) ((9 * (k4 % 9)) + c5) ((x5 33 (9 * (k4 % 9) + c5) + (wL (ownT g) (g 11) n i) k4) % 1000000007))) (⟨by omega, (sq_up hs5 (by decide)), hT5, hW5, fun j hj => wO_yes hY5 (by omega) (by omega) (by omega) ht9 hj⟩) (by omega))
                    · refine qy (fun _ _ k9 => z_goto 235 d_X12_before_195 (by decide) k9) ?_
                      refine qy (fun _ _ k9 => z_iinc (ls' := [qR m, qI (n : Int), qI (i : Int), qI (k4 : Int), qI (((k4 / 9) : Nat) : Int), qI (((k4 % 9) : Nat) : Int), qI ((c5 : Int) + 1)]) d_X12_before_235 rfl (by decide) (by omega) rfl k9) ?_
                      refine qy (fun _ _ k9 => z_goto 118 d_X12_before_238 (by decide) k9) ?_
                      exact qy (fun _ _ k9 => z_eq (qc rfl (qc rfl (qc rfl (qc rfl (qc rfl (qc rfl (qc (qi (by omega)) rfl))))))) rfl rfl k9) (kk5 (c5 + 1) x5 (⟨by omega, hs5, hT5, hW5, fun j hj => (hY5 j hj).trans (wO_no hj (by first | exact Or.inr ht9 | exact Or.inl (by omega)))⟩) (by omega))
      · refine qy (fun _ _ k9 => z_aload_n d_X12_before_82 rfl rfl k9) ?_
        refine qy (fun _ _ k9 => z_getf (v := qR (m + 33)) d_X12_before_83 fl_X12_112 rput_o rfl k9) ?_
        refine qy (fun _ _ k9 => z_iload_n d_X12_before_86 rfl rfl k9) ?_
        refine qy (fun _ _ k9 => z_lconst d_X12_before_87 (z := 0) (by decide) k9) ?_
        refine qy (fun _ _ k9 => z_lst k3 d_X12_before_88 (rput_a2 33 (t := 1) (n := 81) (F := (x3 33)) rfl rfl rfl (by decide) (by decide)) (by omega) rfl (by omega) k9) ?_
        refine qy (fun _ _ k9 => z_eq rfl rfl (rput_sa 33 rfl rfl (by decide) (by decide)) k9) ?_
        refine qy (fun _ _ k9 => z_iinc (ls' := [qR m, qI (n : Int), qI (i : Int), qI ((k3 : Int) + 1), qU, qU, qU]) d_X12_before_89 rfl (by decide) (by omega) rfl k9) ?_
        refine qy (fun _ _ k9 => z_goto 76 d_X12_before_92 (by decide) k9) ?_
        exact qy (fun _ _ k9 => z_eq (qc rfl (qc rfl (qc rfl (qc (qi (by omega)) (qc rfl (qc rfl (qc rfl rfl))))))) rfl rfl k9) (kk3 (k3 + 1) (gup x3 33 (qup (x3 33) k3 0)) (⟨by omega, (sq_up hs3 (by decide)), hT3, hW3, fun j hj => if e : j = k3 then (by show qup (x3 33) k3 _ j = 0; rw [e, qup_eq]) else (by show qup (x3 33) k3 _ j = 0; rw [qup_ne e]; exact hZ3 j (by omega))⟩) (by omega))
  · refine qy (fun _ _ k9 => z_aload_n d_X12_before_32 rfl rfl k9) ?_
    refine qy (fun _ _ k9 => z_getf (v := qR (m + 32)) d_X12_before_33 fl_X12_108 rput_o rfl k9) ?_
    refine qy (fun _ _ k9 => z_iload_n d_X12_before_36 rfl rfl k9) ?_
    refine qy (fun _ _ k9 => z_iload_n d_X12_before_37 rfl rfl k9) ?_
    refine qy (fun _ _ k9 => z_bipush d_X12_before_38 (by decide) k9) ?_
    refine qy (fun _ _ k9 => z_idiv d_X12_before_40 (by omega) k9) ?_
    refine qy (fun _ _ k9 => z_eq rfl (qc (qi (by rw [Int.tdiv_eq_ediv_of_nonneg (by omega)] <;> omega)) rfl) rfl k9) ?_
    refine qy (fun _ _ k9 => z_bipush d_X12_before_41 (by decide) k9) ?_
    refine qy2 (fun _ _ => z_icmp_ne 59 d_X12_before_43 (by decide)) (fun hc17 => ?_) (fun hc17 => ?_)
    · refine qy (fun _ _ k9 => z_lconst d_X12_before_59 (z := 0) (by decide) k9) ?_
      refine qy (fun _ _ k9 => z_lst k d_X12_before_60 (rput_a2 32 (t := 1) (n := 81) (F := (x 32)) rfl rfl rfl (by decide) (by decide)) (by omega) rfl (by omega) k9) ?_
      refine qy (fun _ _ k9 => z_eq rfl rfl (rput_sa 32 rfl rfl (by decide) (by decide)) k9) ?_
      refine qy (fun _ _ k9 => z_iinc (ls' := [qR m, qI (n : Int), qI ((k : Int) + 1), qU, qU, qU, qU]) d_X12_before_61 rfl (by decide) (by omega) rfl k9) ?_
      refine qy (fun _ _ k9 => z_goto 26 d_X12_before_64 (by decide) k9) ?_
      exact qy (fun _ _ k9 => z_eq (qc rfl (qc rfl (qc (qi (by omega)) (qc rfl (qc rfl (qc rfl (qc rfl rfl))))))) rfl rfl k9) (kk (k + 1) (gup x 32 (qup (x 32) k 0)) (⟨by omega, (sq_up hs (by decide)), hT, fun j hj => if e : j = k then (by show qup (x 32) k _ j = qif (j / 9 = 8 ∧ j % 9 ≠ 8) 1 0; rw [e, qup_eq]; first | rw [qif_t (by omega)] | rw [qif_f (by omega)]) else (by show qup (x 32) k _ j = _; rw [qup_ne e]; exact hW j (by omega))⟩) (by omega))
    · refine qy (fun _ _ k9 => z_iload_n d_X12_before_46 rfl rfl k9) ?_
      refine qy (fun _ _ k9 => z_bipush d_X12_before_47 (by decide) k9) ?_
      refine qy (fun _ _ k9 => z_irem d_X12_before_49 (by omega) k9) ?_
      refine qy (fun _ _ k9 => z_eq rfl (qc (qi (by rw [Int.tmod_eq_emod_of_nonneg (by omega)] <;> omega)) rfl) rfl k9) ?_
      refine qy (fun _ _ k9 => z_bipush d_X12_before_50 (by decide) k9) ?_
      refine qy2 (fun _ _ => z_icmp_eq 59 d_X12_before_52 (by decide)) (fun hc18 => ?_) (fun hc18 => ?_)
      · refine qy (fun _ _ k9 => z_lconst d_X12_before_59 (z := 0) (by decide) k9) ?_
        refine qy (fun _ _ k9 => z_lst k d_X12_before_60 (rput_a2 32 (t := 1) (n := 81) (F := (x 32)) rfl rfl rfl (by decide) (by decide)) (by omega) rfl (by omega) k9) ?_
        refine qy (fun _ _ k9 => z_eq rfl rfl (rput_sa 32 rfl rfl (by decide) (by decide)) k9) ?_
        refine qy (fun _ _ k9 => z_iinc (ls' := [qR m, qI (n : Int), qI ((k : Int) + 1), qU, qU, qU, qU]) d_X12_before_61 rfl (by decide) (by omega) rfl k9) ?_
        refine qy (fun _ _ k9 => z_goto 26 d_X12_before_64 (by decide) k9) ?_
        exact qy (fun _ _ k9 => z_eq (qc rfl (qc rfl (qc (qi (by omega)) (qc rfl (qc rfl (qc rfl (qc rfl rfl))))))) rfl rfl k9) (kk (k + 1) (gup x 32 (qup (x 32) k 0)) (⟨by omega, (sq_up hs (by decide)), hT, fun j hj => if e : j = k then (by show qup (x 32) k _ j = qif (j / 9 = 8 ∧ j % 9 ≠ 8) 1 0; rw [e, qup_eq]; first | rw [qif_t (by omega)] | rw [qif_f (by omega)]) else (by show qup (x 32) k _ j = _; rw [qup_ne e]; exact hW j (by omega))⟩) (by omega))
      · refine qy (fun _ _ k9 => z_lconst d_X12_before_55 (z := 1) (by decide) k9) ?_
        refine qy (fun _ _ k9 => z_goto 60 d_X12_before_56 (by decide) k9) ?_
        refine qy (fun _ _ k9 => z_lst k d_X12_before_60 (rput_a2 32 (t := 1) (n := 81) (F := (x 32)) rfl rfl rfl (by decide) (by decide)) (by omega) rfl (by omega) k9) ?_
        refine qy (fun _ _ k9 => z_eq rfl rfl (rput_sa 32 rfl rfl (by decide) (by decide)) k9) ?_
        refine qy (fun _ _ k9 => z_iinc (ls' := [qR m, qI (n : Int), qI ((k : Int) + 1), qU, qU, qU, qU]) d_X12_before_61 rfl (by decide) (by omega) rfl k9) ?_
        refine qy (fun _ _ k9 => z_goto 26 d_X12_before_64 (by decide) k9) ?_
        exact qy (fun _ _ k9 => z_eq (qc rfl (qc rfl (qc (qi (by omega)) (qc rfl (qc rfl (qc rfl (qc rfl rfl))))))) rfl rfl k9) (kk (k + 1) (gup x 32 (qup (x 32) k 1)) (⟨by omega, (sq_up hs (by decide)), hT, fun j hj => if e : j = k then (by show qup (x 32) k _ j = qif (j / 9 = 8 ∧ j % 9 ≠ 8) 1 0; rw [e, qup_eq]; first | rw [qif_t (by omega)] | rw [qif_f (by omega)]) else (by show qup (x 32) k _ j = _; rw [qup_ne e]; exact hW j (by omega))⟩) (by omega))
set_option maxRecDepth 20000 in
set_option maxHeartbeats 4000000 in
theorem c_before_no {h : qH} {m : Nat} {f : Nat → Int} {g : Nat → Nat → Int}  (hm : 2 ≤ m) (h0 : f 0 = 0) (hN : g 11 160 = 0) : qEx M_X12_before 0 [qR m, qU, qU, qU, qU, qU, qU] [] (rput h m f g) (some (qI (-1))) (rput h m f g) := by
  refine q_gen (fun r hr er eh => ?_)
  refine z_aload_n d_X12_before_0 rfl rfl ?_
  refine z_iconst d_X12_before_1 (by decide) ?_
  refine z_putf (fs' := [qI 0, qI (f 1), qI (f 2), qI (f 3), qI (f 4), qI (f 5), qI (f 6), qI (f 7), qR (m + 1), qR (m + 2), qR (m + 3), qR (m + 4), qR (m + 5), qR (m + 6), qR (m + 7), qR (m + 8), qR (m + 9), qR (m + 10), qI (f 18), qI (f 19), qI (f 20), qR (m + 11), qR (m + 12), qR (m + 13), qR (m + 14), qI (f 25), qR (m + 15), qI (f 27), qR (m + 16), qR (m + 17), qR (m + 18), qR (m + 19), qR (m + 20), qR (m + 21), qR (m + 22), qR (m + 23), qR (m + 24), qI (f 37), qI (f 38), qI (f 39), qI (f 40), qR (m + 25), qR (m + 26), qR (m + 27), qR (m + 28), qR (m + 29), qR (m + 30), qR (m + 31), qI (f 48), qR (m + 32), qR (m + 33), qR (m + 34), qR (m + 35), qR (m + 36), qR (m + 37)]) d_X12_before_2 fp_X12_127 rput_o (fun _ => rfl) (fun _ => rfl) (Nat.le_of_ble_eq_true rfl) rfl ?_
  refine z_eq rfl rfl ((rput_sf (f' := qup f 0 0) rfl).trans (rput_cg (qup_self h0) rfl)) ?_
  refine z_aload_n d_X12_before_5 rfl rfl ?_
  refine z_getf (v := qR (m + 11)) d_X12_before_6 fl_X12_44 rput_o rfl ?_
  refine z_sipush d_X12_before_9 (by decide) ?_
  refine z_ild 160 d_X12_before_12 (rput_a2 11 (t := 0) (n := 167) (F := (g 11)) rfl rfl rfl (by decide) (by decide)) rfl (by omega) ?_
  refine z_eq rfl (qc (qi hN) rfl) rfl ?_
  refine z_istore_n (ls' := [qR m, qI 0, qU, qU, qU, qU, qU]) d_X12_before_13 rfl (by decide) rfl ?_
  refine z_iload_n d_X12_before_14 rfl rfl ?_
  refine z_if_ne 20 d_X12_before_15 (by decide) (fun hc1 => absurd hc1 (by decide)) (fun hc1 => ?_)
  refine z_iconst d_X12_before_18 (by decide) ?_
  exact z_iret d_X12_before_19 rfl er eh
