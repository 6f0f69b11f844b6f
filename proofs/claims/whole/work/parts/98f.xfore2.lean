/-! ===== CONTRACTS: forebears: count ===== -/
theorem cO_wL {T M : Nat → Int} {n i j : Nat} (hi : i + 1 < n) (hj : j < 72) : cO T (wL T M n i) (M i) 72 0 j = wL T M n (i + 1) (9 * (j / 8) + j % 8) := by
  show _ = wO T (wL T M n i) (M i) (i + 1 = n) 81 0 (9 * (j / 8) + j % 8)
  unfold cO wO
  have a1 : (9 * (j / 8) + j % 8) / 9 = j / 8 := by omega
  have a2 : (9 * (j / 8) + j % 8) % 9 = j % 8 := by omega
  rw [a1, a2, show ac8 72 0 j = 9 by unfold ac8; rw [if_neg (by omega)], show ac 81 0 (9 * (j / 8) + j % 8) = 9 by unfold ac; rw [if_neg (by omega)]]
  refine qif_cg ⟨Or.inl, fun z => z.elim id (fun y => absurd ⟨fun x => by omega, fun x => by omega⟩ y)⟩ rfl rfl
noncomputable def fT (T W : Nat → Int) (mi : Int) (b a : Nat) : Int := qif (T (81 * b + 9 * a + 8) = mi) (W (9 * a + b)) 0
noncomputable def fC (T W : Nat → Int) (mi : Int) : Nat → Int
  | 0 => 0
  | p + 1 => fC T W mi p + fT T W mi (p % 8) (p / 8)
noncomputable def fA (T W : Nat → Int) (mi : Int) (b : Nat) : Nat → Int
  | 0 => 0
  | a + 1 => fA T W mi b a + fT T W mi b a
noncomputable def fB (T W : Nat → Int) (mi : Int) (a : Nat) : Nat → Int
  | 0 => 0
  | b + 1 => fB T W mi a b + fA T W mi b a
section Sums
variable {T W : Nat → Int} {mi : Int}
theorem fT_bd (hW : ∀ j, 0 ≤ W j ∧ W j < 1000000007) {b a : Nat} : 0 ≤ fT T W mi b a ∧ fT T W mi b a < 1000000007 := by
  have := hW (9 * a + b)
  unfold fT
  exact qif_or (fun z => 0 ≤ z ∧ z < (1000000007 : Int)) this (by omega)
theorem fC_bd (hW : ∀ j, 0 ≤ W j ∧ W j < 1000000007) : ∀ p : Nat, 0 ≤ fC T W mi p ∧ fC T W mi p ≤ 1000000007 * p
  | 0 => by show 0 ≤ (0 : Int) ∧ (0 : Int) ≤ 1000000007 * ((0 : Nat) : Int); omega
  | p + 1 => by
    have h := fC_bd hW p
    have h2 := fT_bd (T := T) (mi := mi) hW (b := p % 8) (a := p / 8)
    show 0 ≤ fC T W mi p + fT T W mi (p % 8) (p / 8) ∧ fC T W mi p + fT T W mi (p % 8) (p / 8) ≤ 1000000007 * ((p + 1 : Nat) : Int)
    omega
theorem fA_mod {b : Nat} : ∀ a, wA T W mi b 8 a = fA T W mi b a % 1000000007
  | 0 => rfl
  | a + 1 => by
    show qif (T (81 * b + 9 * a + 8) = mi) ((wA T W mi b 8 a + W (9 * a + b)) % 1000000007) (wA T W mi b 8 a) = (fA T W mi b a + fT T W mi b a) % 1000000007
    unfold fT
    rw [fA_mod a]
    by_cases c : T (81 * b + 9 * a + 8) = mi
    · rw [qif_t c, qif_t c]; omega
    · rw [qif_f c, qif_f c]; omega
theorem fB_s (a : Nat) : ∀ b, b ≤ 8 → fB T W mi (a + 1) b = fB T W mi a b + (fC T W mi (8 * a + b) - fC T W mi (8 * a))
  | 0, _ => by show (0 : Int) = 0 + (fC T W mi (8 * a) - fC T W mi (8 * a)); omega
  | b + 1, hb => by
    show fB T W mi (a + 1) b + (fA T W mi b a + fT T W mi b a) = fB T W mi a b + fA T W mi b a + (fC T W mi (8 * a + b) + fT T W mi ((8 * a + b) % 8) ((8 * a + b) / 8) - fC T W mi (8 * a))
    rw [fB_s a b (by omega), show (8 * a + b) % 8 = b by omega, show (8 * a + b) / 8 = a by omega]
    omega
theorem fB_C : ∀ a, fB T W mi a 8 = fC T W mi (8 * a)
  | 0 => by
    have : ∀ b, fB T W mi 0 b = 0 := fun b => by
      induction b with
      | zero => rfl
      | succ b ih => show fB T W mi 0 b + 0 = 0; rw [ih]; rfl
    rw [this]; rfl
  | a + 1 => by
    rw [fB_s a 8 (Nat.le_refl _), fB_C a, show 8 * (a + 1) = 8 * a + 8 by omega]
    omega
end Sums
theorem wS_mod {T M : Nat → Int} {n : Nat} (hn : 1 ≤ n) : ∀ b, b ≤ 8 → wS T M n b % 1000000007 = fB T (wL T M n (n - 1)) (M (n - 1)) 9 b % 1000000007
  | 0, _ => rfl
  | b + 1, hb => by
    have ih := wS_mod (T := T) (M := M) hn b (by omega)
    have e : wL T M n n (9 * b + 8) = wA T (wL T M n (n - 1)) (M (n - 1)) b 8 9 := by
      obtain ⟨i, rfl⟩ : ∃ i, n = i + 1 := ⟨n - 1, by omega⟩
      show wO T (wL T M (i + 1) i) (M i) (i + 1 = i + 1) 81 0 (9 * b + 8) = _
      unfold wO
      rw [show (9 * b + 8) / 9 = b by omega, show (9 * b + 8) % 9 = 8 by omega, show ac 81 0 (9 * b + 8) = 9 by unfold ac; rw [if_neg (by omega)], qif_f (fun z => z.elim (fun y => by omega) (fun y => y ⟨fun _ => rfl, fun _ => rfl⟩))]
      rfl
    show (wS T M n b + wL T M n n (9 * b + 8)) % 1000000007 = (fB T (wL T M n (n - 1)) (M (n - 1)) 9 b + fA T (wL T M n (n - 1)) (M (n - 1)) b 9) % 1000000007
    rw [e, fA_mod]
    omega
theorem fore_res {T M : Nat → Int} {n : Nat} (hn : 1 ≤ n) : fC T (wL T M n (n - 1)) (M (n - 1)) 72 % 1000000007 = wS T M n 8 % 1000000007 := by
  rw [wS_mod hn 8 (Nat.le_refl _), fB_C 9]
set_option maxRecDepth 20000 in
set_option maxHeartbeats 1000000 in
theorem c_fore {h : qH} {F G : Nat → Nat → Int} {n : Nat} {T M : Nat → Int} (hn : 1 ≤ n ∧ n ≤ 32) (hT : ∀ c, c < 648 → G 6 c = T c) (hM : ∀ k, k < 32 → G 57 k = M k) (hfl : F 216 0 = 0 ∨ F 216 0 = 1) : ∃ F' G', ((∀ a, a ≠ 216 → F' a = F a) ∧ (∀ a, a ≠ 217 → a ≠ 218 → G' a = G a) ∧ (F' 216 0 = 0 ∨ F' 216 0 = 1)) ∧ qEx M_X1_count 0 [qR 216, qR 57, qI (n : Int), qR 6, qU, qU, qU] [] (xput h F G) (some (qI ((wS T M n 8) % 1000000007))) (xput h F' G') := by
  refine x_in (fun Q hQ => ?_)
  rcases hfl with hfl | hfl
  · refine qy (fun _ _ k9 => z_aload_n d_X1_count_0 rfl rfl k9) ?_
    refine qy (fun _ _ k9 => z_getf (v := qR 217) d_X1_count_1 fl_X1_9 ((xput_ob (c := (F 216)) xi_216 rfl (xsh_1 xo_216)).trans (by rw [hfl]; try rfl)) rfl k9) ?_
    refine qy (fun _ _ k9 => z_lconst d_X1_count_4 (z := 0) (by decide) k9) ?_
    refine qy (fun _ _ k9 => z_cs0 (M1 := M_J7_fill_d0a16) d_X1_count_5 ls_X1_18 k_J7_fill_d0a16 [qR 217, qL 0] rfl rfl (Nat.le_of_ble_eq_true rfl) (by decide) (by decide) (Nat.le_of_ble_eq_true rfl) (c_fillL (xput_ar (g := (G 217)) xa_217 rfl) (by decide) (by decide)) k9) ?_
    refine qy (fun _ _ k9 => z_eq rfl rfl (xput_sa xa_217) k9) ?_
    refine qy (fun _ _ k9 => z_iconst d_X1_count_8 (by decide) k9) ?_
    refine qy (fun _ _ k9 => z_istore (ls' := [qR 216, qR 57, qI (n : Int), qR 6, qI 0, qU, qU]) d_X1_count_9 (by decide) rfl k9) ?_
    refine qy (fun _ _ k9 => z_eq (qc rfl (qc rfl (qc rfl (qc rfl (qc (qi (rfl)) (qc rfl (qc rfl rfl))))))) rfl rfl k9) (y_wh2 (fun (k : Nat) (Ga : Nat → Nat → Int) => 8 - k) (fun (k : Nat) (Ga : Nat → Nat → Int) => [qR 216, qR 57, qI (n : Int), qR 6, qI (k : Int), qU, qU]) (fun (k : Nat) (Ga : Nat → Nat → Int) => (xput h F Ga)) (fun (k : Nat) (Ga : Nat → Nat → Int) => k ≤ 8 ∧ (∀ a, a ≠ 217 → Ga a = G a) ∧ ∀ j, j < 72 → Ga 217 j = (fun j => qif (64 ≤ j ∧ j < 64 + k) 1 0) j) 0 (gup G 217 (qmx 72 (fun _ => 0) (G 217))) (⟨by omega, fun a ha => gup_ne ha, fun j hj => by rw [gup_eq, qmx_lt hj]; exact (qif_f (by omega)).symm⟩) (fun k Ga hp k1 => ?_))
    obtain ⟨hk8, hfr, hY⟩ := hp
    show qEy M_X1_count 11 [qR 216, qR 57, qI (n : Int), qR 6, qI (k : Int), qU, qU] [] (xput h F Ga) Q
    refine qy (fun _ _ k9 => z_iload d_X1_count_11 rfl k9) ?_
    refine qy (fun _ _ k9 => z_bipush d_X1_count_13 (by decide) k9) ?_
    refine qy2 (fun _ _ => z_icmp_ge 35 d_X1_count_15 (by decide)) (fun hc1 => ?_) (fun hc1 => ?_)
    · refine qy (fun _ _ k9 => z_iconst d_X1_count_35 (by decide) k9) ?_
      refine qy (fun _ _ k9 => z_istore (ls' := [qR 216, qR 57, qI (n : Int), qR 6, qI 0, qU, qU]) d_X1_count_36 (by decide) rfl k9) ?_
      have hV0 : ∀ j, j < 72 → Ga (217 + (F 216 0).toNat) j = wL T M n 0 (9 * (j / 8) + j % 8) := fun j hj => by rw [hfl]; show Ga 217 j = _; rw [hY j hj]; exact qif_cg (by omega) rfl rfl
      have hG0 : ∀ a, a ≠ 217 → a ≠ 218 → Ga a = G a := fun a h1 h2 => hfr a h1
      have hfl0 : F 216 0 = 0 ∨ F 216 0 = 1 := Or.inl hfl
      refine qy (fun _ _ k9 => z_eq (qc rfl (qc rfl (qc rfl (qc rfl (qc (qi (rfl)) (qc rfl (qc rfl rfl))))))) rfl rfl k9) (y_wh3 (fun (i : Nat) (Fb : Nat → Nat → Int) (Gb : Nat → Nat → Int) => n - 1 - i) (fun (i : Nat) (Fb : Nat → Nat → Int) (Gb : Nat → Nat → Int) => [qR 216, qR 57, qI (n : Int), qR 6, qI (i : Int), qU, qU]) (fun (i : Nat) (Fb : Nat → Nat → Int) (Gb : Nat → Nat → Int) => xput h Fb Gb) (fun (i : Nat) (Fb : Nat → Nat → Int) (Gb : Nat → Nat → Int) => i ≤ n - 1 ∧ (∀ a, a ≠ 216 → Fb a = F a) ∧ (∀ a, a ≠ 217 → a ≠ 218 → Gb a = G a) ∧ (Fb 216 0 = 0 ∨ Fb 216 0 = 1) ∧ ∀ j, j < 72 → Gb (217 + (Fb 216 0).toNat) j = wL T M n i (9 * (j / 8) + j % 8)) 0 F Ga ⟨by omega, fun a _ => rfl, hG0, hfl0, hV0⟩ (fun i Fb Gb hp9 k5 => ?_))
      clear hfl hfl0 hG0 hV0 hfr hY
      obtain ⟨hin, hff, hfg, hfl, hV⟩ := hp9
      show qEy M_X1_count 38 [qR 216, qR 57, qI (n : Int), qR 6, qI (i : Int), qU, qU] [] (xput h Fb Gb) Q
      rcases hfl with hfl | hfl
      · have hV9 : ∀ j, j < 72 → Gb 217 j = wL T M n i (9 * (j / 8) + j % 8) := fun j hj => by have z := hV j hj; rw [hfl] at z; exact z
        refine qy (fun _ _ k9 => z_iload d_X1_count_38 rfl k9) ?_
        refine qy (fun _ _ k9 => z_iload_n d_X1_count_40 rfl rfl k9) ?_
        refine qy (fun _ _ k9 => z_iconst d_X1_count_41 (by decide) k9) ?_
        refine qy (fun _ _ k9 => z_isub d_X1_count_42 (by omega) k9) ?_
        refine qy2 (fun _ _ => z_icmp_ge 61 d_X1_count_43 (by decide)) (fun hc2 => ?_) (fun hc2 => ?_)
        · refine qy (fun _ _ k9 => z_lconst d_X1_count_61 (z := 0) (by decide) k9) ?_
          refine qy (fun _ _ k9 => z_lstore (ls' := [qR 216, qR 57, qI (n : Int), qR 6, qL 0, qU, qU]) d_X1_count_62 (by decide) rfl k9) ?_
          refine qy (fun _ _ k9 => z_iconst d_X1_count_64 (by decide) k9) ?_
          refine qy (fun _ _ k9 => z_istore (ls' := [qR 216, qR 57, qI (n : Int), qR 6, qL 0, qU, qI 0]) d_X1_count_65 (by decide) rfl k9) ?_
          have hW9 := wL_bd (T := T) (M := M) (n := n) (n - 1)
          have hi9 : i = n - 1 := by omega
          subst hi9
          have hM9 : Gb 57 (n - 1) = M (n - 1) := by rw [hfg 57 (by decide) (by decide)]; exact hM (n - 1) (by omega)
          refine qy (fun _ _ k9 => z_eq (qc rfl (qc rfl (qc rfl (qc rfl (qc (ql (rfl)) (qc rfl (qc (qi (rfl)) rfl))))))) rfl rfl k9) (y_wh1 (fun (p : Nat) => 72 - p) (fun (p : Nat) => [qR 216, qR 57, qI (n : Int), qR 6, qL (fC T (wL T M n (n - 1)) (M (n - 1)) p), qU, qI (p : Int)]) (fun (p : Nat) => (xput h Fb Gb)) (fun (p : Nat) => p ≤ 72) 0 (by omega) (fun p hp72 k6 => ?_))
          obtain hp := hp72
          show qEy M_X1_count 67 [qR 216, qR 57, qI (n : Int), qR 6, qL (fC T (wL T M n (n - 1)) (M (n - 1)) p), qU, qI (p : Int)] [] (xput h Fb Gb) Q
          have hfc := fC_bd (T := T) (mi := M (n - 1)) hW9 p
          have hft := fT_bd (T := T) (mi := M (n - 1)) hW9 (b := p % 8) (a := p / 8)
          have hWp := hW9 (9 * (p / 8) + p % 8)
          refine qy (fun _ _ k9 => z_iload d_X1_count_67 rfl k9) ?_
          refine qy (fun _ _ k9 => z_bipush d_X1_count_69 (by decide) k9) ?_
          refine qy2 (fun _ _ => z_icmp_ge 117 d_X1_count_71 (by decide)) (fun hc3 => ?_) (fun hc3 => ?_)
          · have hfl2 : Fb 216 0 = 0 ∨ Fb 216 0 = 1 := Or.inl hfl
            refine qy (fun _ _ k9 => z_lload d_X1_count_117 rfl k9) ?_
            refine qy (fun _ _ k9 => z_ldc2 (n := 1000000007) d_X1_count_119 cq_X1_32 (by decide) (by decide) k9) ?_
            refine qy (fun _ _ k9 => z_lrem d_X1_count_122 (by omega) k9) ?_
            refine qy (fun _ _ k9 => z_eq rfl (qc (ql (show _ = wS T M n 8 % 1000000007 by rw [Int.tmod_eq_emod_of_nonneg (by omega), show p = 72 by omega]; exact fore_res (by omega))) rfl) rfl k9) ?_
            refine qy (fun _ _ k9 => z_l2i d_X1_count_123 k9) ?_
            refine qy (fun _ _ k9 => z_eq rfl (qc (qi (show (qL2i (wS T M n 8 % 1000000007)) = ((wS T M n 8) % 1000000007) from qL2i_id ⟨by omega, by omega⟩)) rfl) rfl k9) ?_
            exact y_ret (hQ Fb Gb (⟨hff, hfg, hfl2⟩)) (z_iret d_X1_count_124 rfl rfl rfl)
          · refine qy (fun _ _ k9 => z_aload_n d_X1_count_74 rfl rfl k9) ?_
            refine qy (fun _ _ k9 => z_iload d_X1_count_75 rfl k9) ?_
            refine qy (fun _ _ k9 => z_bipush d_X1_count_77 (by decide) k9) ?_
            refine qy (fun _ _ k9 => z_irem d_X1_count_79 (by omega) k9) ?_
            refine qy (fun _ _ k9 => z_eq rfl (qc (qi (by rw [Int.tmod_eq_emod_of_nonneg (by omega)] <;> omega)) rfl) rfl k9) ?_
            refine qy (fun _ _ k9 => z_iload d_X1_count_80 rfl k9) ?_
            refine qy (fun _ _ k9 => z_bipush d_X1_count_82 (by decide) k9) ?_
            refine qy (fun _ _ k9 => z_idiv d_X1_count_84 (by omega) k9) ?_
            refine qy (fun _ _ k9 => z_eq rfl (qc (qi (by rw [Int.tdiv_eq_ediv_of_nonneg (by omega)] <;> omega)) rfl) rfl k9) ?_
            refine qy (fun _ _ k9 => z_bipush d_X1_count_85 (by decide) k9) ?_
            refine qy (fun _ _ k9 => z_cs (M1 := M_X11_caseOf) d_X1_count_87 ls_X1_28 k_X11_caseOf [qI (((p % 8) : Nat) : Int), qI (((p / 8) : Nat) : Int), qI 8] rfl rfl (Nat.le_of_ble_eq_true rfl) (by decide) (by decide) (Nat.le_of_ble_eq_true rfl) (c_caseOf (((p % 8) : Nat) : Int) (((p / 8) : Nat) : Int) 8 (by omega) (by omega) (by omega)) k9) ?_
            refine qy (fun _ _ k9 => z_ild (81 * (p % 8) + 9 * (p / 8) + 8) d_X1_count_90 (xput_ar (g := (Gb 6)) xa_6 rfl) (by omega) (by omega) k9) ?_
            refine qy (fun _ _ k9 => z_aload_n d_X1_count_91 rfl rfl k9) ?_
            refine qy (fun _ _ k9 => z_iload_n d_X1_count_92 rfl rfl k9) ?_
            refine qy (fun _ _ k9 => z_iconst d_X1_count_93 (by decide) k9) ?_
            refine qy (fun _ _ k9 => z_isub d_X1_count_94 (by omega) k9) ?_
            refine qy (fun _ _ k9 => z_ild (n - 1) d_X1_count_95 (xput_ar (g := (Gb 57)) xa_57 rfl) (by omega) (by omega) k9) ?_
            refine qy2 (fun _ _ => z_icmp_ne 111 d_X1_count_96 (by decide)) (fun q96 => ?_) (fun q96 => ?_)
            · have hq96 : ¬ T (81 * (p % 8) + 9 * (p / 8) + 8) = M (n - 1) := by rw [← hT _ (by omega), ← hM9, ← hfg 6 (by decide) (by decide)]; exact q96
              refine qy (fun _ _ k9 => z_iinc (ls' := [qR 216, qR 57, qI (n : Int), qR 6, qL (fC T (wL T M n (n - 1)) (M (n - 1)) p), qU, qI ((p : Int) + 1)]) d_X1_count_111 rfl (by decide) (by omega) rfl k9) ?_
              refine qy (fun _ _ k9 => z_goto 67 d_X1_count_114 (by decide) k9) ?_
              exact qy (fun _ _ k9 => z_eq (qc rfl (qc rfl (qc rfl (qc rfl (qc (ql (show _ = (fC T (wL T M n (n - 1)) (M (n - 1)) p) + fT T (wL T M n (n - 1)) (M (n - 1)) (p % 8) (p / 8) from by unfold fT; rw [qif_f hq96, Int.add_zero])) (qc rfl (qc (qi (by omega)) rfl))))))) rfl rfl k9) (k6 (p + 1) (by omega) (by omega))
            · have hq96 : T (81 * (p % 8) + 9 * (p / 8) + 8) = M (n - 1) := by rw [← hT _ (by omega), ← hM9, ← hfg 6 (by decide) (by decide)]; exact Classical.not_not.mp q96
              have hVp : Gb 217 p = wL T M n (n - 1) (9 * (p / 8) + p % 8) := hV9 p (by omega)
              refine qy (fun _ _ k9 => z_lload d_X1_count_99 rfl k9) ?_
              refine qy (fun _ _ k9 => z_aload_n d_X1_count_101 rfl rfl k9) ?_
              refine qy (fun _ _ k9 => z_getf (v := qR 217) d_X1_count_102 fl_X1_9 ((xput_ob (c := (Fb 216)) xi_216 rfl (xsh_1 xo_216)).trans (by rw [hfl]; try rfl)) rfl k9) ?_
              refine qy (fun _ _ k9 => z_iload d_X1_count_105 rfl k9) ?_
              refine qy (fun _ _ k9 => z_lld p d_X1_count_107 (xput_ar (g := (Gb 217)) xa_217 rfl) rfl (by omega) k9) ?_
              refine qy (fun _ _ k9 => z_ladd d_X1_count_108 (by omega) k9) ?_
              refine qy (fun _ _ k9 => z_lstore (ls' := [qR 216, qR 57, qI (n : Int), qR 6, qL ((fC T (wL T M n (n - 1)) (M (n - 1)) p) + ((Gb 217) p)), qU, qI (p : Int)]) d_X1_count_109 (by decide) rfl k9) ?_
              refine qy (fun _ _ k9 => z_iinc (ls' := [qR 216, qR 57, qI (n : Int), qR 6, qL ((fC T (wL T M n (n - 1)) (M (n - 1)) p) + ((Gb 217) p)), qU, qI ((p : Int) + 1)]) d_X1_count_111 rfl (by decide) (by omega) rfl k9) ?_
              refine qy (fun _ _ k9 => z_goto 67 d_X1_count_114 (by decide) k9) ?_
              exact qy (fun _ _ k9 => z_eq (qc rfl (qc rfl (qc rfl (qc rfl (qc (ql (show _ = (fC T (wL T M n (n - 1)) (M (n - 1)) p) + fT T (wL T M n (n - 1)) (M (n - 1)) (p % 8) (p / 8) from by unfold fT; rw [qif_t hq96, hV9 p (by omega)])) (qc rfl (qc (qi (by omega)) rfl))))))) rfl rfl k9) (k6 (p + 1) (by omega) (by omega))
        · have hfg57 : Gb 57 i = M i := by rw [hfg 57 (by decide) (by decide)]; exact hM i (by omega)
          refine qy (fun _ _ k9 => z_aload_n d_X1_count_46 rfl rfl k9) ?_
          refine qy (fun _ _ k9 => z_aload_n d_X1_count_47 rfl rfl k9) ?_
          refine qy (fun _ _ k9 => z_iload d_X1_count_48 rfl k9) ?_
          refine qy (fun _ _ k9 => z_ild i d_X1_count_50 (xput_ar (g := (Gb 57)) xa_57 rfl) rfl (by omega) k9) ?_
          refine qy (fun _ _ k9 => z_aload_n d_X1_count_51 rfl rfl k9) ?_
          obtain ⟨F1, G1, ⟨he1, hv1, hw1⟩, hx1⟩ := c_goRight0 (h := h) (F := Fb) (G := Gb) (d := 6) (T := T) (W := wL T M n i) (Gb 57 i) xa_6 (by decide) (fun c hc => by rw [hfg 6 (by decide) (by decide)]; exact hT c hc) hV9 (wL_bd i) hfl
          refine qy (fun _ _ k9 => z_cv0 (M1 := M_X1_goRight) d_X1_count_52 lv_X1_24 k_X1_goRight [qI ((Gb 57) i), qR 6] rfl rfl ((xput_ob (c := (Fb 216)) xi_216 rfl (xsh_1 xo_216)).trans (by rw [hfl]; try rfl)) ⟨_, _, rfl⟩ (Nat.le_of_ble_eq_true rfl) (by decide) (by decide) (Nat.le_of_ble_eq_true rfl) hx1 k9) ?_
          refine qy (fun _ _ k9 => z_iinc (ls' := [qR 216, qR 57, qI (n : Int), qR 6, qI ((i : Int) + 1), qU, qU]) d_X1_count_55 rfl (by decide) (by omega) rfl k9) ?_
          refine qy (fun _ _ k9 => z_goto 38 d_X1_count_58 (by decide) k9) ?_
          have hfl3 : F1 216 0 = 1 := by rw [he1, gup_eq, qup_eq]
          exact qy (fun _ _ k9 => z_eq (qc rfl (qc rfl (qc rfl (qc rfl (qc (qi (by omega)) (qc rfl (qc rfl rfl))))))) rfl rfl k9) (k5 (i + 1) F1 G1 ⟨by omega, fun a ha => by rw [he1, gup_ne ha]; exact hff a ha, fun a h1 h2 => (hv1 a h2).trans (hfg a h1 h2), Or.inr hfl3, fun j hj => by rw [hfl3]; show G1 218 j = _; rw [hw1 j hj, hfg57]; exact cO_wL (by omega) hj⟩ (by omega))
      · have hV9 : ∀ j, j < 72 → Gb 218 j = wL T M n i (9 * (j / 8) + j % 8) := fun j hj => by have z := hV j hj; rw [hfl] at z; exact z
        refine qy (fun _ _ k9 => z_iload d_X1_count_38 rfl k9) ?_
        refine qy (fun _ _ k9 => z_iload_n d_X1_count_40 rfl rfl k9) ?_
        refine qy (fun _ _ k9 => z_iconst d_X1_count_41 (by decide) k9) ?_
        refine qy (fun _ _ k9 => z_isub d_X1_count_42 (by omega) k9) ?_
        refine qy2 (fun _ _ => z_icmp_ge 61 d_X1_count_43 (by decide)) (fun hc4 => ?_) (fun hc4 => ?_)
        · refine qy (fun _ _ k9 => z_lconst d_X1_count_61 (z := 0) (by decide) k9) ?_
          refine qy (fun _ _ k9 => z_lstore (ls' := [qR 216, qR 57, qI (n : Int), qR 6, qL 0, qU, qU]) d_X1_count_62 (by decide) rfl k9) ?_
          refine qy (fun _ _ k9 => z_iconst d_X1_count_64 (by decide) k9) ?_
          refine qy (fun _ _ k9 => z_istore (ls' := [qR 216, qR 57, qI (n : Int), qR 6, qL 0, qU, qI 0]) d_X1_count_65 (by decide) rfl k9) ?_
          have hW9 := wL_bd (T := T) (M := M) (n := n) (n - 1)
          have hi9 : i = n - 1 := by omega
          subst hi9
          have hM9 : Gb 57 (n - 1) = M (n - 1) := by rw [hfg 57 (by decide) (by decide)]; exact hM (n - 1) (by omega)
          refine qy (fun _ _ k9 => z_eq (qc rfl (qc rfl (qc rfl (qc rfl (qc (ql (rfl)) (qc rfl (qc (qi (rfl)) rfl))))))) rfl rfl k9) (y_wh1 (fun (p : Nat) => 72 - p) (fun (p : Nat) => [qR 216, qR 57, qI (n : Int), qR 6, qL (fC T (wL T M n (n - 1)) (M (n - 1)) p), qU, qI (p : Int)]) (fun (p : Nat) => (xput h Fb Gb)) (fun (p : Nat) => p ≤ 72) 0 (by omega) (fun p hp72 k6 => ?_))
          obtain hp := hp72
          show qEy M_X1_count 67 [qR 216, qR 57, qI (n : Int), qR 6, qL (fC T (wL T M n (n - 1)) (M (n - 1)) p), qU, qI (p : Int)] [] (xput h Fb Gb) Q
          have hfc := fC_bd (T := T) (mi := M (n - 1)) hW9 p
          have hft := fT_bd (T := T) (mi := M (n - 1)) hW9 (b := p % 8) (a := p / 8)
          have hWp := hW9 (9 * (p / 8) + p % 8)
          refine qy (fun _ _ k9 => z_iload d_X1_count_67 rfl k9) ?_
          refine qy (fun _ _ k9 => z_bipush d_X1_count_69 (by decide) k9) ?_
          refine qy2 (fun _ _ => z_icmp_ge 117 d_X1_count_71 (by decide)) (fun hc5 => ?_) (fun hc5 => ?_)
          · have hfl2 : Fb 216 0 = 0 ∨ Fb 216 0 = 1 := Or.inr hfl
            refine qy (fun _ _ k9 => z_lload d_X1_count_117 rfl k9) ?_
            refine qy (fun _ _ k9 => z_ldc2 (n := 1000000007) d_X1_count_119 cq_X1_32 (by decide) (by decide) k9) ?_
            refine qy (fun _ _ k9 => z_lrem d_X1_count_122 (by omega) k9) ?_
            refine qy (fun _ _ k9 => z_eq rfl (qc (ql (show _ = wS T M n 8 % 1000000007 by rw [Int.tmod_eq_emod_of_nonneg (by omega), show p = 72 by omega]; exact fore_res (by omega))) rfl) rfl k9) ?_
            refine qy (fun _ _ k9 => z_l2i d_X1_count_123 k9) ?_
            refine qy (fun _ _ k9 => z_eq rfl (qc (qi (show (qL2i (wS T M n 8 % 1000000007)) = ((wS T M n 8) % 1000000007) from qL2i_id ⟨by omega, by omega⟩)) rfl) rfl k9) ?_
            exact y_ret (hQ Fb Gb (⟨hff, hfg, hfl2⟩)) (z_iret d_X1_count_124 rfl rfl rfl)
          · refine qy (fun _ _ k9 => z_aload_n d_X1_count_74 rfl rfl k9) ?_
            refine qy (fun _ _ k9 => z_iload d_X1_count_75 rfl k9) ?_
            refine qy (fun _ _ k9 => z_bipush d_X1_count_77 (by decide) k9) ?_
            refine qy (fun _ _ k9 => z_irem d_X1_count_79 (by omega) k9) ?_
            refine qy (fun _ _ k9 => z_eq rfl (qc (qi (by rw [Int.tmod_eq_emod_of_nonneg (by omega)] <;> omega)) rfl) rfl k9) ?_
            refine qy (fun _ _ k9 => z_iload d_X1_count_80 rfl k9) ?_
            refine qy (fun _ _ k9 => z_bipush d_X1_count_82 (by decide) k9) ?_
            refine qy (fun _ _ k9 => z_idiv d_X1_count_84 (by omega) k9) ?_
            refine qy (fun _ _ k9 => z_eq rfl (qc (qi (by rw [Int.tdiv_eq_ediv_of_nonneg (by omega)] <;> omega)) rfl) rfl k9) ?_
            refine qy (fun _ _ k9 => z_bipush d_X1_count_85 (by decide) k9) ?_
            refine qy (fun _ _ k9 => z_cs (M1 := M_X11_caseOf) d_X1_count_87 ls_X1_28 k_X11_caseOf [qI (((p % 8) : Nat) : Int), qI (((p / 8) : Nat) : Int), qI 8] rfl rfl (Nat.le_of_ble_eq_true rfl) (by decide) (by decide) (Nat.le_of_ble_eq_true rfl) (c_caseOf (((p % 8) : Nat) : Int) (((p / 8) : Nat) : Int) 8 (by omega) (by omega) (by omega)) k9) ?_
            refine qy (fun _ _ k9 => z_ild (81 * (p % 8) + 9 * (p / 8) + 8) d_X1_count_90 (xput_ar (g := (Gb 6)) xa_6 rfl) (by omega) (by omega) k9) ?_
            refine qy (fun _ _ k9 => z_aload_n d_X1_count_91 rfl rfl k9) ?_
            refine qy (fun _ _ k9 => z_iload_n d_X1_count_92 rfl rfl k9) ?_
            refine qy (fun _ _ k9 => z_iconst d_X1_count_93 (by decide) k9) ?_
            refine qy (fun _ _ k9 => z_isub d_X1_count_94 (by omega) k9) ?_
            refine qy (fun _ _ k9 => z_ild (n - 1) d_X1_count_95 (xput_ar (g := (Gb 57)) xa_57 rfl) (by omega) (by omega) k9) ?_
            refine qy2 (fun _ _ => z_icmp_ne 111 d_X1_count_96 (by decide)) (fun q96 => ?_) (fun q96 => ?_)
            · have hq96 : ¬ T (81 * (p % 8) + 9 * (p / 8) + 8) = M (n - 1) := by rw [← hT _ (by omega), ← hM9, ← hfg 6 (by decide) (by decide)]; exact q96
              refine qy (fun _ _ k9 => z_iinc (ls' := [qR 216, qR 57, qI (n : Int), qR 6, qL (fC T (wL T M n (n - 1)) (M (n - 1)) p), qU, qI ((p : Int) + 1)]) d_X1_count_111 rfl (by decide) (by omega) rfl k9) ?_
              refine qy (fun _ _ k9 => z_goto 67 d_X1_count_114 (by decide) k9) ?_
              exact qy (fun _ _ k9 => z_eq (qc rfl (qc rfl (qc rfl (qc rfl (qc (ql (show _ = (fC T (wL T M n (n - 1)) (M (n - 1)) p) + fT T (wL T M n (n - 1)) (M (n - 1)) (p % 8) (p / 8) from by unfold fT; rw [qif_f hq96, Int.add_zero])) (qc rfl (qc (qi (by omega)) rfl))))))) rfl rfl k9) (k6 (p + 1) (by omega) (by omega))
            · have hq96 : T (81 * (p % 8) + 9 * (p / 8) + 8) = M (n - 1) := by rw [← hT _ (by omega), ← hM9, ← hfg 6 (by decide) (by decide)]; exact Classical.not_not.mp q96
              have hVp : Gb 218 p = wL T M n (n - 1) (9 * (p / 8) + p % 8) := hV9 p (by omega)
              refine qy (fun _ _ k9 => z_lload d_X1_count_99 rfl k9) ?_
              refine qy (fun _ _ k9 => z_aload_n d_X1_count_101 rfl rfl k9) ?_
              refine qy (fun _ _ k9 => z_getf (v := qR 218) d_X1_count_102 fl_X1_9 ((xput_ob (c := (Fb 216)) xi_216 rfl (xsh_1 xo_216)).trans (by rw [hfl]; try rfl)) rfl k9) ?_
              refine qy (fun _ _ k9 => z_iload d_X1_count_105 rfl k9) ?_
              refine qy (fun _ _ k9 => z_lld p d_X1_count_107 (xput_ar (g := (Gb 218)) xa_218 rfl) rfl (by omega) k9) ?_
              refine qy (fun _ _ k9 => z_ladd d_X1_count_108 (by omega) k9) ?_
              refine qy (fun _ _ k9 => z_lstore (ls' := [qR 216, qR 57, qI (n : Int), qR 6, qL ((fC T (wL T M n (n - 1)) (M (n - 1)) p) + ((Gb 218) p)), qU, qI (p : Int)]) d_X1_count_109 (by decide) rfl k9) ?_
              refine qy (fun _ _ k9 => z_iinc (ls' := [qR 216, qR 57, qI (n : Int), qR 6, qL ((fC T (wL T M n (n - 1)) (M (n - 1)) p) + ((Gb 218) p)), qU, qI ((p : Int) + 1)]) d_X1_count_111 rfl (by decide) (by omega) rfl k9) ?_
              refine qy (fun _ _ k9 => z_goto 67 d_X1_count_114 (by decide) k9) ?_
              exact qy (fun _ _ k9 => z_eq (qc rfl (qc rfl (qc rfl (qc rfl (qc (ql (show _ = (fC T (wL T M n (n - 1)) (M (n - 1)) p) + fT T (wL T M n (n - 1)) (M (n - 1)) (p % 8) (p / 8) from by unfold fT; rw [qif_t hq96, hV9 p (by omega)])) (qc rfl (qc (qi (by omega)) rfl))))))) rfl rfl k9) (k6 (p + 1) (by omega) (by omega))
        · have hfg57 : Gb 57 i = M i := by rw [hfg 57 (by decide) (by decide)]; exact hM i (by omega)
          refine qy (fun _ _ k9 => z_aload_n d_X1_count_46 rfl rfl k9) ?_
          refine qy (fun _ _ k9 => z_aload_n d_X1_count_47 rfl rfl k9) ?_
          refine qy (fun _ _ k9 => z_iload d_X1_count_48 rfl k9) ?_
          refine qy (fun _ _ k9 => z_ild i d_X1_count_50 (xput_ar (g := (Gb 57)) xa_57 rfl) rfl (by omega) k9) ?_
          refine qy (fun _ _ k9 => z_aload_n d_X1_count_51 rfl rfl k9) ?_
          obtain ⟨F2, G2, ⟨he2, hv2, hw2⟩, hx2⟩ := c_goRight1 (h := h) (F := Fb) (G := Gb) (d := 6) (T := T) (W := wL T M n i) (Gb 57 i) xa_6 (by decide) (fun c hc => by rw [hfg 6 (by decide) (by decide)]; exact hT c hc) hV9 (wL_bd i) hfl
          refine qy (fun _ _ k9 => z_cv0 (M1 := M_X1_goRight) d_X1_count_52 lv_X1_24 k_X1_goRight [qI ((Gb 57) i), qR 6] rfl rfl ((xput_ob (c := (Fb 216)) xi_216 rfl (xsh_1 xo_216)).trans (by rw [hfl]; try rfl)) ⟨_, _, rfl⟩ (Nat.le_of_ble_eq_true rfl) (by decide) (by decide) (Nat.le_of_ble_eq_true rfl) hx2 k9) ?_
          refine qy (fun _ _ k9 => z_iinc (ls' := [qR 216, qR 57, qI (n : Int), qR 6, qI ((i : Int) + 1), qU, qU]) d_X1_count_55 rfl (by decide) (by omega) rfl k9) ?_
          refine qy (fun _ _ k9 => z_goto 38 d_X1_count_58 (by decide) k9) ?_
          have hfl3 : F2 216 0 = 0 := by rw [he2, gup_eq, qup_eq]
          exact qy (fun _ _ k9 => z_eq (qc rfl (qc rfl (qc rfl (qc rfl (qc (qi (by omega)) (qc rfl (qc rfl rfl))))))) rfl rfl k9) (k5 (i + 1) F2 G2 ⟨by omega, fun a ha => by rw [he2, gup_ne ha]; exact hff a ha, fun a h1 h2 => (hv2 a h1).trans (hfg a h1 h2), Or.inl hfl3, fun j hj => by rw [hfl3]; show G2 217 j = _; rw [hw2 j hj, hfg57]; exact cO_wL (by omega) hj⟩ (by omega))
    · refine qy (fun _ _ k9 => z_aload_n d_X1_count_18 rfl rfl k9) ?_
      refine qy (fun _ _ k9 => z_getf (v := qR 217) d_X1_count_19 fl_X1_9 ((xput_ob (c := (F 216)) xi_216 rfl (xsh_1 xo_216)).trans (by rw [hfl]; try rfl)) rfl k9) ?_
      refine qy (fun _ _ k9 => z_bipush d_X1_count_22 (by decide) k9) ?_
      refine qy (fun _ _ k9 => z_iload d_X1_count_24 rfl k9) ?_
      refine qy (fun _ _ k9 => z_iadd d_X1_count_26 (by omega) k9) ?_
      refine qy (fun _ _ k9 => z_lconst d_X1_count_27 (z := 1) (by decide) k9) ?_
      refine qy (fun _ _ k9 => z_lst (64 + k) d_X1_count_28 (xput_ar (g := (Ga 217)) xa_217 rfl) (by omega) rfl (by omega) k9) ?_
      refine qy (fun _ _ k9 => z_eq rfl rfl (xput_sa xa_217) k9) ?_
      refine qy (fun _ _ k9 => z_iinc (ls' := [qR 216, qR 57, qI (n : Int), qR 6, qI ((k : Int) + 1), qU, qU]) d_X1_count_29 rfl (by decide) (by omega) rfl k9) ?_
      refine qy (fun _ _ k9 => z_goto 11 d_X1_count_32 (by decide) k9) ?_
      exact qy (fun _ _ k9 => z_eq (qc rfl (qc rfl (qc rfl (qc rfl (qc (qi (by omega)) (qc rfl (qc rfl rfl))))))) rfl rfl k9) (k1 (k + 1) (gup Ga 217 (qup (Ga 217) (64 + k) 1)) (⟨by omega, fun a ha => (gup_ne ha).trans (hfr a ha), fun j hj => by rw [gup_eq]; by_cases z : j = 64 + k; rw [z, qup_eq]; exact (qif_t (by omega)).symm; rw [qup_ne z, hY j hj]; exact qif_cg (by omega) rfl rfl⟩) (by omega))
  · refine qy (fun _ _ k9 => z_aload_n d_X1_count_0 rfl rfl k9) ?_
    refine qy (fun _ _ k9 => z_getf (v := qR 218) d_X1_count_1 fl_X1_9 ((xput_ob (c := (F 216)) xi_216 rfl (xsh_1 xo_216)).trans (by rw [hfl]; try rfl)) rfl k9) ?_
    refine qy (fun _ _ k9 => z_lconst d_X1_count_4 (z := 0) (by decide) k9) ?_
    refine qy (fun _ _ k9 => z_cs0 (M1 := M_J7_fill_d0a16) d_X1_count_5 ls_X1_18 k_J7_fill_d0a16 [qR 218, qL 0] rfl rfl (Nat.le_of_ble_eq_true rfl) (by decide) (by decide) (Nat.le_of_ble_eq_true rfl) (c_fillL (xput_ar (g := (G 218)) xa_218 rfl) (by decide) (by decide)) k9) ?_
    refine qy (fun _ _ k9 => z_eq rfl rfl (xput_sa xa_218) k9) ?_
    refine qy (fun _ _ k9 => z_iconst d_X1_count_8 (by decide) k9) ?_
    refine qy (fun _ _ k9 => z_istore (ls' := [qR 216, qR 57, qI (n : Int), qR 6, qI 0, qU, qU]) d_X1_count_9 (by decide) rfl k9) ?_
    refine qy (fun _ _ k9 => z_eq (qc rfl (qc rfl (qc rfl (qc rfl (qc (qi (rfl)) (qc rfl (qc rfl rfl))))))) rfl rfl k9) (y_wh2 (fun (k : Nat) (Ga : Nat → Nat → Int) => 8 - k) (fun (k : Nat) (Ga : Nat → Nat → Int) => [qR 216, qR 57, qI (n : Int), qR 6, qI (k : Int), qU, qU]) (fun (k : Nat) (Ga : Nat → Nat → Int) => (xput h F Ga)) (fun (k : Nat) (Ga : Nat → Nat → Int) => k ≤ 8 ∧ (∀ a, a ≠ 218 → Ga a = G a) ∧ ∀ j, j < 72 → Ga 218 j = (fun j => qif (64 ≤ j ∧ j < 64 + k) 1 0) j) 0 (gup G 218 (qmx 72 (fun _ => 0) (G 218))) (⟨by omega, fun a ha => gup_ne ha, fun j hj => by rw [gup_eq, qmx_lt hj]; exact (qif_f (by omega)).symm⟩) (fun k Ga hp k1 => ?_))
    obtain ⟨hk8, hfr, hY⟩ := hp
    show qEy M_X1_count 11 [qR 216, qR 57, qI (n : Int), qR 6, qI (k : Int), qU, qU] [] (xput h F Ga) Q
    refine qy (fun _ _ k9 => z_iload d_X1_count_11 rfl k9) ?_
    refine qy (fun _ _ k9 => z_bipush d_X1_count_13 (by decide) k9) ?_
    refine qy2 (fun _ _ => z_icmp_ge 35 d_X1_count_15 (by decide)) (fun hc6 => ?_) (fun hc6 => ?_)
    · refine qy (fun _ _ k9 => z_iconst d_X1_count_35 (by decide) k9) ?_
      refine qy (fun _ _ k9 => z_istore (ls' := [qR 216, qR 57, qI (n : Int), qR 6, qI 0, qU, qU]) d_X1_count_36 (by decide) rfl k9) ?_
      have hV0 : ∀ j, j < 72 → Ga (217 + (F 216 0).toNat) j = wL T M n 0 (9 * (j / 8) + j % 8) := fun j hj => by rw [hfl]; show Ga 218 j = _; rw [hY j hj]; exact qif_cg (by omega) rfl rfl
      have hG0 : ∀ a, a ≠ 217 → a ≠ 218 → Ga a = G a := fun a h1 h2 => hfr a h2
      have hfl0 : F 216 0 = 0 ∨ F 216 0 = 1 := Or.inr hfl
      refine qy (fun _ _ k9 => z_eq (qc rfl (qc rfl (qc rfl (qc rfl (qc (qi (rfl)) (qc rfl (qc rfl rfl))))))) rfl rfl k9) (y_wh3 (fun (i : Nat) (Fb : Nat → Nat → Int) (Gb : Nat → Nat → Int) => n - 1 - i) (fun (i : Nat) (Fb : Nat → Nat → Int) (Gb : Nat → Nat → Int) => [qR 216, qR 57, qI (n : Int), qR 6, qI (i : Int), qU, qU]) (fun (i : Nat) (Fb : Nat → Nat → Int) (Gb : Nat → Nat → Int) => xput h Fb Gb) (fun (i : Nat) (Fb : Nat → Nat → Int) (Gb : Nat → Nat → Int) => i ≤ n - 1 ∧ (∀ a, a ≠ 216 → Fb a = F a) ∧ (∀ a, a ≠ 217 → a ≠ 218 → Gb a = G a) ∧ (Fb 216 0 = 0 ∨ Fb 216 0 = 1) ∧ ∀ j, j < 72 → Gb (217 + (Fb 216 0).toNat) j = wL T M n i (9 * (j / 8) + j % 8)) 0 F Ga ⟨by omega, fun a _ => rfl, hG0, hfl0, hV0⟩ (fun i Fb Gb hp9 k5 => ?_))
      clear hfl hfl0 hG0 hV0 hfr hY
      obtain ⟨hin, hff, hfg, hfl, hV⟩ := hp9
      show qEy M_X1_count 38 [qR 216, qR 57, qI (n : Int), qR 6, qI (i : Int), qU, qU] [] (xput h Fb Gb) Q
      rcases hfl with hfl | hfl
      · have hV9 : ∀ j, j < 72 → Gb 217 j = wL T M n i (9 * (j / 8) + j % 8) := fun j hj => by have z := hV j hj; rw [hfl] at z; exact z
        refine qy (fun _ _ k9 => z_iload d_X1_count_38 rfl k9) ?_
        refine qy (fun _ _ k9 => z_iload_n d_X1_count_40 rfl rfl k9) ?_
        refine qy (fun _ _ k9 => z_iconst d_X1_count_41 (by decide) k9) ?_
        refine qy (fun _ _ k9 => z_isub d_X1_count_42 (by omega) k9) ?_
        refine qy2 (fun _ _ => z_icmp_ge 61 d_X1_count_43 (by decide)) (fun hc7 => ?_) (fun hc7 => ?_)
        · refine qy (fun _ _ k9 => z_lconst d_X1_count_61 (z := 0) (by decide) k9) ?_
          refine qy (fun _ _ k9 => z_lstore (ls' := [qR 216, qR 57, qI (n : Int), qR 6, qL 0, qU, qU]) d_X1_count_62 (by decide) rfl k9) ?_
          refine qy (fun _ _ k9 => z_iconst d_X1_count_64 (by decide) k9) ?_
          refine qy (fun _ _ k9 => z_istore (ls' := [qR 216, qR 57, qI (n : Int), qR 6, qL 0, qU, qI 0]) d_X1_count_65 (by decide) rfl k9) ?_
          have hW9 := wL_bd (T := T) (M := M) (n := n) (n - 1)
          have hi9 : i = n - 1 := by omega
          subst hi9
          have hM9 : Gb 57 (n - 1) = M (n - 1) := by rw [hfg 57 (by decide) (by decide)]; exact hM (n - 1) (by omega)
          refine qy (fun _ _ k9 => z_eq (qc rfl (qc rfl (qc rfl (qc rfl (qc (ql (rfl)) (qc rfl (qc (qi (rfl)) rfl))))))) rfl rfl k9) (y_wh1 (fun (p : Nat) => 72 - p) (fun (p : Nat) => [qR 216, qR 57, qI (n : Int), qR 6, qL (fC T (wL T M n (n - 1)) (M (n - 1)) p), qU, qI (p : Int)]) (fun (p : Nat) => (xput h Fb Gb)) (fun (p : Nat) => p ≤ 72) 0 (by omega) (fun p hp72 k6 => ?_))
          obtain hp := hp72
          show qEy M_X1_count 67 [qR 216, qR 57, qI (n : Int), qR 6, qL (fC T (wL T M n (n - 1)) (M (n - 1)) p), qU, qI (p : Int)] [] (xput h Fb Gb) Q
          have hfc := fC_bd (T := T) (mi := M (n - 1)) hW9 p
          have hft := fT_bd (T := T) (mi := M (n - 1)) hW9 (b := p % 8) (a := p / 8)
          have hWp := hW9 (9 * (p / 8) + p % 8)
          refine qy (fun _ _ k9 => z_iload d_X1_count_67 rfl k9) ?_
          refine qy (fun _ _ k9 => z_bipush d_X1_count_69 (by decide) k9) ?_
          refine qy2 (fun _ _ => z_icmp_ge 117 d_X1_count_71 (by decide)) (fun hc8 => ?_) (fun hc8 => ?_)
          · have hfl2 : Fb 216 0 = 0 ∨ Fb 216 0 = 1 := Or.inl hfl
            refine qy (fun _ _ k9 => z_lload d_X1_count_117 rfl k9) ?_
            refine qy (fun _ _ k9 => z_ldc2 (n := 1000000007) d_X1_count_119 cq_X1_32 (by decide) (by decide) k9) ?_
            refine qy (fun _ _ k9 => z_lrem d_X1_count_122 (by omega) k9) ?_
            refine qy (fun _ _ k9 => z_eq rfl (qc (ql (show _ = wS T M n 8 % 1000000007 by rw [Int.tmod_eq_emod_of_nonneg (by omega), show p = 72 by omega]; exact fore_res (by omega))) rfl) rfl k9) ?_
            refine qy (fun _ _ k9 => z_l2i d_X1_count_123 k9) ?_
            refine qy (fun _ _ k9 => z_eq rfl (qc (qi (show (qL2i (wS T M n 8 % 1000000007)) = ((wS T M n 8) % 1000000007) from qL2i_id ⟨by omega, by omega⟩)) rfl) rfl k9) ?_
            exact y_ret (hQ Fb Gb (⟨hff, hfg, hfl2⟩)) (z_iret d_X1_count_124 rfl rfl rfl)
          · refine qy (fun _ _ k9 => z_aload_n d_X1_count_74 rfl rfl k9) ?_
            refine qy (fun _ _ k9 => z_iload d_X1_count_75 rfl k9) ?_
            refine qy (fun _ _ k9 => z_bipush d_X1_count_77 (by decide) k9) ?_
            refine qy (fun _ _ k9 => z_irem d_X1_count_79 (by omega) k9) ?_
            refine qy (fun _ _ k9 => z_eq rfl (qc (qi (by rw [Int.tmod_eq_emod_of_nonneg (by omega)] <;> omega)) rfl) rfl k9) ?_
            refine qy (fun _ _ k9 => z_iload d_X1_count_80 rfl k9) ?_
            refine qy (fun _ _ k9 => z_bipush d_X1_count_82 (by decide) k9) ?_
            refine qy (fun _ _ k9 => z_idiv d_X1_count_84 (by omega) k9) ?_
            refine qy (fun _ _ k9 => z_eq rfl (qc (qi (by rw [Int.tdiv_eq_ediv_of_nonneg (by omega)] <;> omega)) rfl) rfl k9) ?_
            refine qy (fun _ _ k9 => z_bipush d_X1_count_85 (by decide) k9) ?_
            refine qy (fun _ _ k9 => z_cs (M1 := M_X11_caseOf) d_X1_count_87 ls_X1_28 k_X11_caseOf [qI (((p % 8) : Nat) : Int), qI (((p / 8) : Nat) : Int), qI 8] rfl rfl (Nat.le_of_ble_eq_true rfl) (by decide) (by decide) (Nat.le_of_ble_eq_true rfl) (c_caseOf (((p % 8) : Nat) : Int) (((p / 8) : Nat) : Int) 8 (by omega) (by omega) (by omega)) k9) ?_
            refine qy (fun _ _ k9 => z_ild (81 * (p % 8) + 9 * (p / 8) + 8) d_X1_count_90 (xput_ar (g := (Gb 6)) xa_6 rfl) (by omega) (by omega) k9) ?_
            refine qy (fun _ _ k9 => z_aload_n d_X1_count_91 rfl rfl k9) ?_
            refine qy (fun _ _ k9 => z_iload_n d_X1_count_92 rfl rfl k9) ?_
            refine qy (fun _ _ k9 => z_iconst d_X1_count_93 (by decide) k9) ?_
            refine qy (fun _ _ k9 => z_isub d_X1_count_94 (by omega) k9) ?_
            refine qy (fun _ _ k9 => z_ild (n - 1) d_X1_count_95 (xput_ar (g := (Gb 57)) xa_57 rfl) (by omega) (by omega) k9) ?_
            refine qy2 (fun _ _ => z_icmp_ne 111 d_X1_count_96 (by decide)) (fun q96 => ?_) (fun q96 => ?_)
            · have hq96 : ¬ T (81 * (p % 8) + 9 * (p / 8) + 8) = M (n - 1) := by rw [← hT _ (by omega), ← hM9, ← hfg 6 (by decide) (by decide)]; exact q96
              refine qy (fun _ _ k9 => z_iinc (ls' := [qR 216, qR 57, qI (n : Int), qR 6, qL (fC T (wL T M n (n - 1)) (M (n - 1)) p), qU, qI ((p : Int) + 1)]) d_X1_count_111 rfl (by decide) (by omega) rfl k9) ?_
              refine qy (fun _ _ k9 => z_goto 67 d_X1_count_114 (by decide) k9) ?_
              exact qy (fun _ _ k9 => z_eq (qc rfl (qc rfl (qc rfl (qc rfl (qc (ql (show _ = (fC T (wL T M n (n - 1)) (M (n - 1)) p) + fT T (wL T M n (n - 1)) (M (n - 1)) (p % 8) (p / 8) from by unfold fT; rw [qif_f hq96, Int.add_zero])) (qc rfl (qc (qi (by omega)) rfl))))))) rfl rfl k9) (k6 (p + 1) (by omega) (by omega))
            · have hq96 : T (81 * (p % 8) + 9 * (p / 8) + 8) = M (n - 1) := by rw [← hT _ (by omega), ← hM9, ← hfg 6 (by decide) (by decide)]; exact Classical.not_not.mp q96
              have hVp : Gb 217 p = wL T M n (n - 1) (9 * (p / 8) + p % 8) := hV9 p (by omega)
              refine qy (fun _ _ k9 => z_lload d_X1_count_99 rfl k9) ?_
              refine qy (fun _ _ k9 => z_aload_n d_X1_count_101 rfl rfl k9) ?_
              refine qy (fun _ _ k9 => z_getf (v := qR 217) d_X1_count_102 fl_X1_9 ((xput_ob (c := (Fb 216)) xi_216 rfl (xsh_1 xo_216)).trans (by rw [hfl]; try rfl)) rfl k9) ?_
              refine qy (fun _ _ k9 => z_iload d_X1_count_105 rfl k9) ?_
              refine qy (fun _ _ k9 => z_lld p d_X1_count_107 (xput_ar (g := (Gb 217)) xa_217 rfl) rfl (by omega) k9) ?_
              refine qy (fun _ _ k9 => z_ladd d_X1_count_108 (by omega) k9) ?_
              refine qy (fun _ _ k9 => z_lstore (ls' := [qR 216, qR 57, qI (n : Int), qR 6, qL ((fC T (wL T M n (n - 1)) (M (n - 1)) p) + ((Gb 217) p)), qU, qI (p : Int)]) d_X1_count_109 (by decide) rfl k9) ?_
              refine qy (fun _ _ k9 => z_iinc (ls' := [qR 216, qR 57, qI (n : Int), qR 6, qL ((fC T (wL T M n (n - 1)) (M (n - 1)) p) + ((Gb 217) p)), qU, qI ((p : Int) + 1)]) d_X1_count_111 rfl (by decide) (by omega) rfl k9) ?_
              refine qy (fun _ _ k9 => z_goto 67 d_X1_count_114 (by decide) k9) ?_
              exact qy (fun _ _ k9 => z_eq (qc rfl (qc rfl (qc rfl (qc rfl (qc (ql (show _ = (fC T (wL T M n (n - 1)) (M (n - 1)) p) + fT T (wL T M n (n - 1)) (M (n - 1)) (p % 8) (p / 8) from by unfold fT; rw [qif_t hq96, hV9 p (by omega)])) (qc rfl (qc (qi (by omega)) rfl))))))) rfl rfl k9) (k6 (p + 1) (by omega) (by omega))
        · have hfg57 : Gb 57 i = M i := by rw [hfg 57 (by decide) (by decide)]; exact hM i (by omega)
          refine qy (fun _ _ k9 => z_aload_n d_X1_count_46 rfl rfl k9) ?_
          refine qy (fun _ _ k9 => z_aload_n d_X1_count_47 rfl rfl k9) ?_
          refine qy (fun _ _ k9 => z_iload d_X1_count_48 rfl k9) ?_
          refine qy (fun _ _ k9 => z_ild i d_X1_count_50 (xput_ar (g := (Gb 57)) xa_57 rfl) rfl (by omega) k9) ?_
          refine qy (fun _ _ k9 => z_aload_n d_X1_count_51 rfl rfl k9) ?_
          obtain ⟨F3, G3, ⟨he3, hv3, hw3⟩, hx3⟩ := c_goRight0 (h := h) (F := Fb) (G := Gb) (d := 6) (T := T) (W := wL T M n i) (Gb 57 i) xa_6 (by decide) (fun c hc => by rw [hfg 6 (by decide) (by decide)]; exact hT c hc) hV9 (wL_bd i) hfl
          refine qy (fun _ _ k9 => z_cv0 (M1 := M_X1_goRight) d_X1_count_52 lv_X1_24 k_X1_goRight [qI ((Gb 57) i), qR 6] rfl rfl ((xput_ob (c := (Fb 216)) xi_216 rfl (xsh_1 xo_216)).trans (by rw [hfl]; try rfl)) ⟨_, _, rfl⟩ (Nat.le_of_ble_eq_true rfl) (by decide) (by decide) (Nat.le_of_ble_eq_true rfl) hx3 k9) ?_
          refine qy (fun _ _ k9 => z_iinc (ls' := [qR 216, qR 57, qI (n : Int), qR 6, qI ((i : Int) + 1), qU, qU]) d_X1_count_55 rfl (by decide) (by omega) rfl k9) ?_
          refine qy (fun _ _ k9 => z_goto 38 d_X1_count_58 (by decide) k9) ?_
          have hfl3 : F3 216 0 = 1 := by rw [he3, gup_eq, qup_eq]
          exact qy (fun _ _ k9 => z_eq (qc rfl (qc rfl (qc rfl (qc rfl (qc (qi (by omega)) (qc rfl (qc rfl rfl))))))) rfl rfl k9) (k5 (i + 1) F3 G3 ⟨by omega, fun a ha => by rw [he3, gup_ne ha]; exact hff a ha, fun a h1 h2 => (hv3 a h2).trans (hfg a h1 h2), Or.inr hfl3, fun j hj => by rw [hfl3]; show G3 218 j = _; rw [hw3 j hj, hfg57]; exact cO_wL (by omega) hj⟩ (by omega))
      · have hV9 : ∀ j, j < 72 → Gb 218 j = wL T M n i (9 * (j / 8) + j % 8) := fun j hj => by have z := hV j hj; rw [hfl] at z; exact z
        refine qy (fun _ _ k9 => z_iload d_X1_count_38 rfl k9) ?_
        refine qy (fun _ _ k9 => z_iload_n d_X1_count_40 rfl rfl k9) ?_
        refine qy (fun _ _ k9 => z_iconst d_X1_count_41 (by decide) k9) ?_
        refine qy (fun _ _ k9 => z_isub d_X1_count_42 (by omega) k9) ?_
        refine qy2 (fun _ _ => z_icmp_ge 61 d_X1_count_43 (by decide)) (fun hc9 => ?_) (fun hc9 => ?_)
        · refine qy (fun _ _ k9 => z_lconst d_X1_count_61 (z := 0) (by decide) k9) ?_
          refine qy (fun _ _ k9 => z_lstore (ls' := [qR 216, qR 57, qI (n : Int), qR 6, qL 0, qU, qU]) d_X1_count_62 (by decide) rfl k9) ?_
          refine qy (fun _ _ k9 => z_iconst d_X1_count_64 (by decide) k9) ?_
          refine qy (fun _ _ k9 => z_istore (ls' := [qR 216, qR 57, qI (n : Int), qR 6, qL 0, qU, qI 0]) d_X1_count_65 (by decide) rfl k9) ?_
          have hW9 := wL_bd (T := T) (M := M) (n := n) (n - 1)
          have hi9 : i = n - 1 := by omega
          subst hi9
          have hM9 : Gb 57 (n - 1) = M (n - 1) := by rw [hfg 57 (by decide) (by decide)]; exact hM (n - 1) (by omega)
          refine qy (fun _ _ k9 => z_eq (qc rfl (qc rfl (qc rfl (qc rfl (qc (ql (rfl)) (qc rfl (qc (qi (rfl)) rfl))))))) rfl rfl k9) (y_wh1 (fun (p : Nat) => 72 - p) (fun (p : Nat) => [qR 216, qR 57, qI (n : Int), qR 6, qL (fC T (wL T M n (n - 1)) (M (n - 1)) p), qU, qI (p : Int)]) (fun (p : Nat) => (xput h Fb Gb)) (fun (p : Nat) => p ≤ 72) 0 (by omega) (fun p hp72 k6 => ?_))
          obtain hp := hp72
          show qEy M_X1_count 67 [qR 216, qR 57, qI (n : Int), qR 6, qL (fC T (wL T M n (n - 1)) (M (n - 1)) p), qU, qI (p : Int)] [] (xput h Fb Gb) Q
          have hfc := fC_bd (T := T) (mi := M (n - 1)) hW9 p
          have hft := fT_bd (T := T) (mi := M (n - 1)) hW9 (b := p % 8) (a := p / 8)
          have hWp := hW9 (9 * (p / 8) + p % 8)
          refine qy (fun _ _ k9 => z_iload d_X1_count_67 rfl k9) ?_
          refine qy (fun _ _ k9 => z_bipush d_X1_count_69 (by decide) k9) ?_
          refine qy2 (fun _ _ => z_icmp_ge 117 d_X1_count_71 (by decide)) (fun hc10 => ?_) (fun hc10 => ?_)
          · have hfl2 : Fb 216 0 = 0 ∨ Fb 216 0 = 1 := Or.inr hfl
            refine qy (fun _ _ k9 => z_lload d_X1_count_117 rfl k9) ?_
            refine qy (fun _ _ k9 => z_ldc2 (n := 1000000007) d_X1_count_119 cq_X1_32 (by decide) (by decide) k9) ?_
            refine qy (fun _ _ k9 => z_lrem d_X1_count_122 (by omega) k9) ?_
            refine qy (fun _ _ k9 => z_eq rfl (qc (ql (show _ = wS T M n 8 % 1000000007 by rw [Int.tmod_eq_emod_of_nonneg (by omega), show p = 72 by omega]; exact fore_res (by omega))) rfl) rfl k9) ?_
            refine qy (fun _ _ k9 => z_l2i d_X1_count_123 k9) ?_
            refine qy (fun _ _ k9 => z_eq rfl (qc (qi (show (qL2i (wS T M n 8 % 1000000007)) = ((wS T M n 8) % 1000000007) from qL2i_id ⟨by omega, by omega⟩)) rfl) rfl k9) ?_
            exact y_ret (hQ Fb Gb (⟨hff, hfg, hfl2⟩)) (z_iret d_X1_count_124 rfl rfl rfl)
          · refine qy (fun _ _ k9 => z_aload_n d_X1_count_74 rfl rfl k9) ?_
            refine qy (fun _ _ k9 => z_iload d_X1_count_75 rfl k9) ?_
            refine qy (fun _ _ k9 => z_bipush d_X1_count_77 (by decide) k9) ?_
            refine qy (fun _ _ k9 => z_irem d_X1_count_79 (by omega) k9) ?_
            refine qy (fun _ _ k9 => z_eq rfl (qc (qi (by rw [Int.tmod_eq_emod_of_nonneg (by omega)] <;> omega)) rfl) rfl k9) ?_
            refine qy (fun _ _ k9 => z_iload d_X1_count_80 rfl k9) ?_
            refine qy (fun _ _ k9 => z_bipush d_X1_count_82 (by decide) k9) ?_
            refine qy (fun _ _ k9 => z_idiv d_X1_count_84 (by omega) k9) ?_
            refine qy (fun _ _ k9 => z_eq rfl (qc (qi (by rw [Int.tdiv_eq_ediv_of_nonneg (by omega)] <;> omega)) rfl) rfl k9) ?_
            refine qy (fun _ _ k9 => z_bipush d_X1_count_85 (by decide) k9) ?_
            refine qy (fun _ _ k9 => z_cs (M1 := M_X11_caseOf) d_X1_count_87 ls_X1_28 k_X11_caseOf [qI (((p % 8) : Nat) : Int), qI (((p / 8) : Nat) : Int), qI 8] rfl rfl (Nat.le_of_ble_eq_true rfl) (by decide) (by decide) (Nat.le_of_ble_eq_true rfl) (c_caseOf (((p % 8) : Nat) : Int) (((p / 8) : Nat) : Int) 8 (by omega) (by omega) (by omega)) k9) ?_
            refine qy (fun _ _ k9 => z_ild (81 * (p % 8) + 9 * (p / 8) + 8) d_X1_count_90 (xput_ar (g := (Gb 6)) xa_6 rfl) (by omega) (by omega) k9) ?_
            refine qy (fun _ _ k9 => z_aload_n d_X1_count_91 rfl rfl k9) ?_
            refine qy (fun _ _ k9 => z_iload_n d_X1_count_92 rfl rfl k9) ?_
            refine qy (fun _ _ k9 => z_iconst d_X1_count_93 (by decide) k9) ?_
            refine qy (fun _ _ k9 => z_isub d_X1_count_94 (by omega) k9) ?_
            refine qy (fun _ _ k9 => z_ild (n - 1) d_X1_count_95 (xput_ar (g := (Gb 57)) xa_57 rfl) (by omega) (by omega) k9) ?_
            refine qy2 (fun _ _ => z_icmp_ne 111 d_X1_count_96 (by decide)) (fun q96 => ?_) (fun q96 => ?_)
            · have hq96 : ¬ T (81 * (p % 8) + 9 * (p / 8) + 8) = M (n - 1) := by rw [← hT _ (by omega), ← hM9, ← hfg 6 (by decide) (by decide)]; exact q96
              refine qy (fun _ _ k9 => z_iinc (ls' := [qR 216, qR 57, qI (n : Int), qR 6, qL (fC T (wL T M n (n - 1)) (M (n - 1)) p), qU, qI ((p : Int) + 1)]) d_X1_count_111 rfl (by decide) (by omega) rfl k9) ?_
              refine qy (fun _ _ k9 => z_goto 67 d_X1_count_114 (by decide) k9) ?_
              exact qy (fun _ _ k9 => z_eq (qc rfl (qc rfl (qc rfl (qc rfl (qc (ql (show _ = (fC T (wL T M n (n - 1)) (M (n - 1)) p) + fT T (wL T M n (n - 1)) (M (n - 1)) (p % 8) (p / 8) from by unfold fT; rw [qif_f hq96, Int.add_zero])) (qc rfl (qc (qi (by omega)) rfl))))))) rfl rfl k9) (k6 (p + 1) (by omega) (by omega))
            · have hq96 : T (81 * (p % 8) + 9 * (p / 8) + 8) = M (n - 1) := by rw [← hT _ (by omega), ← hM9, ← hfg 6 (by decide) (by decide)]; exact Classical.not_not.mp q96
              have hVp : Gb 218 p = wL T M n (n - 1) (9 * (p / 8) + p % 8) := hV9 p (by omega)
              refine qy (fun _ _ k9 => z_lload d_X1_count_99 rfl k9) ?_
              refine qy (fun _ _ k9 => z_aload_n d_X1_count_101 rfl rfl k9) ?_
              refine qy (fun _ _ k9 => z_getf (v := qR 218) d_X1_count_102 fl_X1_9 ((xput_ob (c := (Fb 216)) xi_216 rfl (xsh_1 xo_216)).trans (by rw [hfl]; try rfl)) rfl k9) ?_
              refine qy (fun _ _ k9 => z_iload d_X1_count_105 rfl k9) ?_
              refine qy (fun _ _ k9 => z_lld p d_X1_count_107 (xput_ar (g := (Gb 218)) xa_218 rfl) rfl (by omega) k9) ?_
              refine qy (fun _ _ k9 => z_ladd d_X1_count_108 (by omega) k9) ?_
              refine qy (fun _ _ k9 => z_lstore (ls' := [qR 216, qR 57, qI (n : Int), qR 6, qL ((fC T (wL T M n (n - 1)) (M (n - 1)) p) + ((Gb 218) p)), qU, qI (p : Int)]) d_X1_count_109 (by decide) rfl k9) ?_
              refine qy (fun _ _ k9 => z_iinc (ls' := [qR 216, qR 57, qI (n : Int), qR 6, qL ((fC T (wL T M n (n - 1)) (M (n - 1)) p) + ((Gb 218) p)), qU, qI ((p : Int) + 1)]) d_X1_count_111 rfl (by decide) (by omega) rfl k9) ?_
              refine qy (fun _ _ k9 => z_goto 67 d_X1_count_114 (by decide) k9) ?_
              exact qy (fun _ _ k9 => z_eq (qc rfl (qc rfl (qc rfl (qc rfl (qc (ql (show _ = (fC T (wL T M n (n - 1)) (M (n - 1)) p) + fT T (wL T M n (n - 1)) (M (n - 1)) (p % 8) (p / 8) from by unfold fT; rw [qif_t hq96, hV9 p (by omega)])) (qc rfl (qc (qi (by omega)) rfl))))))) rfl rfl k9) (k6 (p + 1) (by omega) (by omega))
        · have hfg57 : Gb 57 i = M i := by rw [hfg 57 (by decide) (by decide)]; exact hM i (by omega)
          refine qy (fun _ _ k9 => z_aload_n d_X1_count_46 rfl rfl k9) ?_
          refine qy (fun _ _ k9 => z_aload_n d_X1_count_47 rfl rfl k9) ?_
          refine qy (fun _ _ k9 => z_iload d_X1_count_48 rfl k9) ?_
          refine qy (fun _ _ k9 => z_ild i d_X1_count_50 (xput_ar (g := (Gb 57)) xa_57 rfl) rfl (by omega) k9) ?_
          refine qy (fun _ _ k9 => z_aload_n d_X1_count_51 rfl rfl k9) ?_
          obtain ⟨F4, G4, ⟨he4, hv4, hw4⟩, hx4⟩ := c_goRight1 (h := h) (F := Fb) (G := Gb) (d := 6) (T := T) (W := wL T M n i) (Gb 57 i) xa_6 (by decide) (fun c hc => by rw [hfg 6 (by decide) (by decide)]; exact hT c hc) hV9 (wL_bd i) hfl
          refine qy (fun _ _ k9 => z_cv0 (M1 := M_X1_goRight) d_X1_count_52 lv_X1_24 k_X1_goRight [qI ((Gb 57) i), qR 6] rfl rfl ((xput_ob (c := (Fb 216)) xi_216 rfl (xsh_1 xo_216)).trans (by rw [hfl]; try rfl)) ⟨_, _, rfl⟩ (Nat.le_of_ble_eq_true rfl) (by decide) (by decide) (Nat.le_of_ble_eq_true rfl) hx4 k9) ?_
          refine qy (fun _ _ k9 => z_iinc (ls' := [qR 216, qR 57, qI (n : Int), qR 6, qI ((i : Int) + 1), qU, qU]) d_X1_count_55 rfl (by decide) (by omega) rfl k9) ?_
          refine qy (fun _ _ k9 => z_goto 38 d_X1_count_58 (by decide) k9) ?_
          have hfl3 : F4 216 0 = 0 := by rw [he4, gup_eq, qup_eq]
          exact qy (fun _ _ k9 => z_eq (qc rfl (qc rfl (qc rfl (qc rfl (qc (qi (by omega)) (qc rfl (qc rfl rfl))))))) rfl rfl k9) (k5 (i + 1) F4 G4 ⟨by omega, fun a ha => by rw [he4, gup_ne ha]; exact hff a ha, fun a h1 h2 => (hv4 a h1).trans (hfg a h1 h2), Or.inl hfl3, fun j hj => by rw [hfl3]; show G4 217 j = _; rw [hw4 j hj, hfg57]; exact cO_wL (by omega) hj⟩ (by omega))
    · refine qy (fun _ _ k9 => z_aload_n d_X1_count_18 rfl rfl k9) ?_
      refine qy (fun _ _ k9 => z_getf (v := qR 218) d_X1_count_19 fl_X1_9 ((xput_ob (c := (F 216)) xi_216 rfl (xsh_1 xo_216)).trans (by rw [hfl]; try rfl)) rfl k9) ?_
      refine qy (fun _ _ k9 => z_bipush d_X1_count_22 (by decide) k9) ?_
      refine qy (fun _ _ k9 => z_iload d_X1_count_24 rfl k9) ?_
      refine qy (fun _ _ k9 => z_iadd d_X1_count_26 (by omega) k9) ?_
      refine qy (fun _ _ k9 => z_lconst d_X1_count_27 (z := 1) (by decide) k9) ?_
      refine qy (fun _ _ k9 => z_lst (64 + k) d_X1_count_28 (xput_ar (g := (Ga 218)) xa_218 rfl) (by omega) rfl (by omega) k9) ?_
      refine qy (fun _ _ k9 => z_eq rfl rfl (xput_sa xa_218) k9) ?_
      refine qy (fun _ _ k9 => z_iinc (ls' := [qR 216, qR 57, qI (n : Int), qR 6, qI ((k : Int) + 1), qU, qU]) d_X1_count_29 rfl (by decide) (by omega) rfl k9) ?_
      refine qy (fun _ _ k9 => z_goto 11 d_X1_count_32 (by decide) k9) ?_
      exact qy (fun _ _ k9 => z_eq (qc rfl (qc rfl (qc rfl (qc rfl (qc (qi (by omega)) (qc rfl (qc rfl rfl))))))) rfl rfl k9) (k1 (k + 1) (gup Ga 218 (qup (Ga 218) (64 + k) 1)) (⟨by omega, fun a ha => (gup_ne ha).trans (hfr a ha), fun j hj => by rw [gup_eq]; by_cases z : j = 64 + k; rw [z, qup_eq]; exact (qif_t (by omega)).symm; rw [qup_ne z, hY j hj]; exact qif_cg (by omega) rfl rfl⟩) (by omega))
