/-! ===== CONTRACTS: rounds: findSame ===== -/
/-- the last of the first n places that has p; -1 if none -/
noncomputable def las (p : Nat → Prop) : Nat → Int
  | 0 => -1
  | n + 1 => qif (p n) (n : Int) (las p n)
theorem las_cases (p : Nat → Prop) : ∀ n, (las p n = -1 ∧ ∀ k, k < n → ¬ p k) ∨ ∃ i, i < n ∧ las p n = (i : Int) ∧ p i ∧ ∀ k, i < k → k < n → ¬ p k
  | 0 => Or.inl ⟨rfl, fun k hk => absurd hk (by omega)⟩
  | n + 1 => by
    by_cases h : p n
    · exact Or.inr ⟨n, by omega, qif_t h, h, fun k h1 h2 => absurd h1 (by omega)⟩
    · have e : las p (n + 1) = las p n := qif_f h
      rcases las_cases p n with ⟨a, b⟩ | ⟨i, hi, a, b, c⟩
      · exact Or.inl ⟨e.trans a, q_lts b h⟩
      · refine Or.inr ⟨i, by omega, e.trans a, b, fun k h1 h2 => ?_⟩
        rcases Nat.lt_or_ge k n with q | q
        · exact c k h1 q
        · rw [show k = n by omega]; exact h
theorem las_at {p : Nat → Prop} {n i : Nat} (hi : i < n) (h : p i) (hn : ∀ k, i < k → k < n → ¬ p k) : las p n = (i : Int) := by
  rcases las_cases p n with ⟨_, b⟩ | ⟨j, hj, a, b, c⟩
  · exact absurd h (b i hi)
  · rw [a]
    rcases Nat.lt_trichotomy i j with q | q | q
    · exact absurd b (hn j q hj)
    · rw [q]
    · exact absurd h (c i q hi)
theorem las_none {p : Nat → Prop} {n : Nat} (h : ∀ k, k < n → ¬ p k) : las p n = -1 := by
  rcases las_cases p n with ⟨a, _⟩ | ⟨j, hj, _, b, _⟩
  · exact a
  · exact absurd b (h j hj)
theorem las_cg {p q : Nat → Prop} : ∀ n, (∀ k, k < n → (p k ↔ q k)) → las p n = las q n
  | 0, _ => rfl
  | n + 1, h => qif_cg (h n (by omega)) rfl (las_cg n (fun k hk => h k (by omega)))
/-- the chains of the rounds before t -/
def chO (G : Nat → Nat → Int) (t : Nat) : Prop := (∀ b : Nat, b < 1024 → G 214 b = las (fun s => bkT9 G s = (b : Int)) t) ∧ ∀ s, s < t → G 215 s = las (fun q => bkT9 G q = bkT9 G s) s
theorem bkT9_cg {G G' : Nat → Nat → Int} (h1 : G' 212 = G 212) (h2 : G' 213 = G 213) (t : Nat) : bkT9 G' t = bkT9 G t := by unfold bkT9; rw [h1, h2]
theorem chO_s {G : Nat → Nat → Int} {t : Nat} {b : Nat} (h : chO G t) (hb : bkT9 G t = (b : Int)) : chO (gup (gup G 215 (qup (G 215) t (G 214 b))) 214 (qup (G 214) b (t : Int))) (t + 1) := by
  have e : ∀ s, bkT9 (gup (gup G 215 (qup (G 215) t (G 214 b))) 214 (qup (G 214) b (t : Int))) s = bkT9 G s := bkT9_cg rfl rfl
  have hbb := bkU_bd (G 212 t) (G 213 t) (G 212 (t + 1)) (G 213 (t + 1))
  have hb2 : b < 1024 := by unfold bkT9 at hb; omega
  refine ⟨fun q hq => ?_, fun s hs => ?_⟩
  · rw [gup_eq, las_cg (q := fun s => bkT9 G s = (q : Int)) (t + 1) (fun k _ => by rw [e])]
    by_cases z : q = b
    · subst z
      rw [qup_eq]
      exact (qif_t hb).symm
    · rw [qup_ne z, h.1 q hq]
      exact (qif_f (show ¬ bkT9 G t = (q : Int) by omega)).symm
  · rw [gup_ne (by decide), gup_eq, las_cg (q := fun q => bkT9 G q = bkT9 G s) s (fun k _ => by rw [e, e])]
    by_cases z : s = t
    · subst z
      rw [qup_eq, h.1 b hb2, hb]
    · rw [qup_ne z]; exact h.2 s (by omega)
set_option maxRecDepth 20000 in
set_option maxHeartbeats 4000000 in
theorem c_findSame {h : qH} {F G : Nat → Nat → Int} {t : Nat} (ht : t ≤ 2000) (hC : chO G t) : ∃ F' G', (F' = F ∧ (∀ a, a ≠ 214 → a ≠ 215 → G' a = G a) ∧ (las (fun s => smP G s t) t = -1 → chO G' (t + 1))) ∧ qEx M_X5_findSame 0 [qR 206, qI (t : Int), qU, qU, qU] [] (xput h F G) (some (qI (las (fun s => smP G s t) t))) (xput h F' G') := by
  refine x_in (fun Q hQ => ?_)
  refine qy (fun _ _ k9 => z_aload_n d_X5_findSame_0 rfl rfl k9) ?_
  refine qy (fun _ _ k9 => z_iload_n d_X5_findSame_1 rfl rfl k9) ?_
  refine qy (fun _ _ k9 => z_cv (M1 := M_X5_bucketOf) d_X5_findSame_2 lv_X5_80 k_X5_bucketOf [qI (t : Int)] rfl rfl (xput_ob (c := (F 206)) xi_206 rfl (xsh_5 xo_206)) ⟨_, _, rfl⟩ (Nat.le_of_ble_eq_true rfl) (by decide) (by decide) (Nat.le_of_ble_eq_true rfl) (c_bucket t (by omega)) k9) ?_
  refine qy (fun _ _ k9 => z_istore_n (ls' := [qR 206, qI (t : Int), qI (bkT9 G t), qU, qU]) d_X5_findSame_5 rfl (by decide) rfl k9) ?_
  obtain ⟨b, hb⟩ : ∃ b : Nat, bkT9 G t = (b : Int) := ⟨(bkT9 G t).toNat, by have := bkU_bd (G 212 t) (G 213 t) (G 212 (t + 1)) (G 213 (t + 1)); unfold bkT9; omega⟩
  have hb2 : b < 1024 := by have := bkU_bd (G 212 t) (G 213 t) (G 212 (t + 1)) (G 213 (t + 1)); unfold bkT9 at hb; omega
  refine qy (fun _ _ k9 => z_eq (qc rfl (qc rfl (qc (qi (show (bkT9 G t) = (b : Int) from hb)) rfl))) rfl rfl k9) ?_
  refine qy (fun _ _ k9 => z_aload_n d_X5_findSame_6 rfl rfl k9) ?_
  refine qy (fun _ _ k9 => z_getf (v := qR 214) d_X5_findSame_7 fl_X5_25 (xput_ob (c := (F 206)) xi_206 rfl (xsh_5 xo_206)) rfl k9) ?_
  refine qy (fun _ _ k9 => z_iload_n d_X5_findSame_10 rfl rfl k9) ?_
  refine qy (fun _ _ k9 => z_ild b d_X5_findSame_11 (xput_ar (g := (G 214)) xa_214 rfl) rfl (by omega) k9) ?_
  refine qy (fun _ _ k9 => z_istore_n (ls' := [qR 206, qI (t : Int), qI (b : Int), qI ((G 214) b), qU]) d_X5_findSame_12 rfl (by decide) rfl k9) ?_
  refine qy (fun _ _ k9 => z_iconst d_X5_findSame_13 (by decide) k9) ?_
  refine qy (fun _ _ k9 => z_istore (ls' := [qR 206, qI (t : Int), qI (b : Int), qI ((G 214) b), qI 0]) d_X5_findSame_14 (by decide) rfl k9) ?_
  refine qy (fun _ _ k9 => z_eq (qc rfl (qc rfl (qc rfl (qc (qi (hC.1 b hb2)) (qc (qi (rfl)) rfl))))) rfl rfl k9) (y_wh2 (fun (m : Nat) (i : Nat) => m) (fun (m : Nat) (i : Nat) => [qR 206, qI (t : Int), qI (b : Int), qI (las (fun s => bkT9 G s = (b : Int)) m), qI (i : Int)]) (fun (m : Nat) (i : Nat) => (xput h F G)) (fun (m : Nat) (i : Nat) => i + m ≤ t ∧ ∀ s, m ≤ s → s < t → ¬ smP G s t) t 0 (⟨by omega, fun s h1 h2 => absurd h1 (by omega)⟩) (fun m i hp kk => ?_))
  obtain ⟨him, hno⟩ := hp
  show qEy M_X5_findSame 16 [qR 206, qI (t : Int), qI (b : Int), qI (las (fun s => bkT9 G s = (b : Int)) m), qI (i : Int)] [] (xput h F G) Q
  refine qy (fun _ _ k9 => z_iload d_X5_findSame_16 rfl k9) ?_
  refine qy (fun _ _ k9 => z_sipush d_X5_findSame_18 (by decide) k9) ?_
  refine qy2 (fun _ _ => z_icmp_gt 53 d_X5_findSame_21 (by decide)) (fun q21 => absurd q21 (by omega)) (fun q21 => ?_)
  refine qy (fun _ _ k9 => z_iload_n d_X5_findSame_24 rfl rfl k9) ?_
  refine qy (fun _ _ k9 => z_iconst d_X5_findSame_25 (by decide) k9) ?_
  refine qy2 (fun _ _ => z_icmp_eq 53 d_X5_findSame_26 (by decide)) (fun q26 => ?_) (fun q26 => ?_)
  · refine qy (fun _ _ k9 => z_aload_n d_X5_findSame_53 rfl rfl k9) ?_
    refine qy (fun _ _ k9 => z_getf (v := qR 215) d_X5_findSame_54 fl_X5_29 (xput_ob (c := (F 206)) xi_206 rfl (xsh_5 xo_206)) rfl k9) ?_
    refine qy (fun _ _ k9 => z_iload_n d_X5_findSame_57 rfl rfl k9) ?_
    refine qy (fun _ _ k9 => z_aload_n d_X5_findSame_58 rfl rfl k9) ?_
    refine qy (fun _ _ k9 => z_getf (v := qR 214) d_X5_findSame_59 fl_X5_25 (xput_ob (c := (F 206)) xi_206 rfl (xsh_5 xo_206)) rfl k9) ?_
    refine qy (fun _ _ k9 => z_iload_n d_X5_findSame_62 rfl rfl k9) ?_
    refine qy (fun _ _ k9 => z_ild b d_X5_findSame_63 (xput_ar (g := (G 214)) xa_214 rfl) rfl (by omega) k9) ?_
    refine qy (fun _ _ k9 => z_ist t d_X5_findSame_64 (xput_ar (g := (G 215)) xa_215 rfl) (by omega) rfl (by omega) k9) ?_
    refine qy (fun _ _ k9 => z_eq rfl rfl (xput_sa xa_215) k9) ?_
    refine qy (fun _ _ k9 => z_aload_n d_X5_findSame_65 rfl rfl k9) ?_
    refine qy (fun _ _ k9 => z_getf (v := qR 214) d_X5_findSame_66 fl_X5_25 (xput_ob (c := (F 206)) xi_206 rfl (xsh_5 xo_206)) rfl k9) ?_
    refine qy (fun _ _ k9 => z_iload_n d_X5_findSame_69 rfl rfl k9) ?_
    refine qy (fun _ _ k9 => z_iload_n d_X5_findSame_70 rfl rfl k9) ?_
    refine qy (fun _ _ k9 => z_ist b d_X5_findSame_71 (xput_ar (g := (G 214)) xa_214 rfl) (by omega) rfl (by omega) k9) ?_
    refine qy (fun _ _ k9 => z_eq rfl rfl (xput_sa xa_214) k9) ?_
    refine qy (fun _ _ k9 => z_iconst d_X5_findSame_72 (by decide) k9) ?_
    exact y_ret (hQ F (gup (gup G 215 (qup (G 215) t ((G 214) b))) 214 (qup (G 214) b (t : Int))) (⟨rfl, fun a h1 h2 => by rw [gup_ne h1, gup_ne h2], fun _ => chO_s hC hb⟩)) (z_iret d_X5_findSame_73 rfl (qsi (las_none (fun k hk => by rcases Nat.lt_or_ge k m with y | y; exact (fun x => (by rcases las_cases (fun s => bkT9 G s = (b : Int)) m with ⟨_, z⟩ | ⟨e, h1, h2, _⟩; exact z k y ((smP_bk x).trans hb); rw [h2] at q26; omega)); exact hno k y hk))) rfl)
  · obtain ⟨e, hem, he, hbe, hgt⟩ : ∃ e, e < m ∧ (las (fun s => bkT9 G s = (b : Int)) m) = (e : Int) ∧ bkT9 G e = (b : Int) ∧ ∀ k, e < k → k < m → ¬ bkT9 G k = (b : Int) := by
      rcases las_cases (fun s => bkT9 G s = (b : Int)) m with ⟨z, _⟩ | ⟨e, h1, h2, h3, h4⟩
      · exact absurd z q26
      · exact ⟨e, h1, h2, h3, h4⟩
    refine qy (fun _ _ k9 => z_eq (qc rfl (qc rfl (qc rfl (qc (qi (show (las (fun s => bkT9 G s = (b : Int)) m) = (e : Int) from he)) rfl)))) rfl rfl k9) ?_
    refine qy (fun _ _ k9 => z_aload_n d_X5_findSame_29 rfl rfl k9) ?_
    refine qy (fun _ _ k9 => z_iload_n d_X5_findSame_30 rfl rfl k9) ?_
    refine qy (fun _ _ k9 => z_iload_n d_X5_findSame_31 rfl rfl k9) ?_
    refine qy (fun _ _ k9 => z_cv (M1 := M_X5_isSame) d_X5_findSame_32 lv_X5_83 k_X5_isSame [qI (t : Int), qI (e : Int)] rfl rfl (xput_ob (c := (F 206)) xi_206 rfl (xsh_5 xo_206)) ⟨_, _, rfl⟩ (Nat.le_of_ble_eq_true rfl) (by decide) (by decide) (Nat.le_of_ble_eq_true rfl) (c_same9 t e (by omega) (by omega)) k9) ?_
    refine qy2n (fun _ _ => z_ifeqB 40 d_X5_findSame_35 (by decide)) (fun q35 => ?_) (fun q35 => ?_)
    · refine qy (fun _ _ k9 => z_aload_n d_X5_findSame_40 rfl rfl k9) ?_
      refine qy (fun _ _ k9 => z_getf (v := qR 215) d_X5_findSame_41 fl_X5_29 (xput_ob (c := (F 206)) xi_206 rfl (xsh_5 xo_206)) rfl k9) ?_
      refine qy (fun _ _ k9 => z_iload_n d_X5_findSame_44 rfl rfl k9) ?_
      refine qy (fun _ _ k9 => z_ild e d_X5_findSame_45 (xput_ar (g := (G 215)) xa_215 rfl) rfl (by omega) k9) ?_
      refine qy (fun _ _ k9 => z_istore_n (ls' := [qR 206, qI (t : Int), qI (b : Int), qI ((G 215) e), qI (i : Int)]) d_X5_findSame_46 rfl (by decide) rfl k9) ?_
      refine qy (fun _ _ k9 => z_iinc (ls' := [qR 206, qI (t : Int), qI (b : Int), qI ((G 215) e), qI ((i : Int) + 1)]) d_X5_findSame_47 rfl (by decide) (by omega) rfl k9) ?_
      refine qy (fun _ _ k9 => z_goto 16 d_X5_findSame_50 (by decide) k9) ?_
      exact qy (fun _ _ k9 => z_eq (qc rfl (qc rfl (qc rfl (qc (qi (by rw [hC.2 e (by omega), hbe])) (qc (qi (by omega)) rfl))))) rfl rfl k9) (kk e (i + 1) (⟨by omega, fun s h1 h2 => by rcases Nat.lt_or_ge s m with y | y; exact (by by_cases z : s = e; rw [z]; exact q35; exact fun x => hgt s (by omega) y ((smP_bk x).trans hb)); exact hno s y h2⟩) (by omega))
    · refine qy (fun _ _ k9 => z_iload_n d_X5_findSame_38 rfl rfl k9) ?_
      exact y_ret (hQ F G (⟨rfl, fun a _ _ => rfl, fun z => absurd (z.symm.trans (las_at (p := fun s => smP G s t) (by omega) q35 (fun k h1 h2 => by rcases Nat.lt_or_ge k m with y | y; exact (fun x => hgt k h1 y ((smP_bk x).trans hb)); exact hno k y h2))) (by omega)⟩)) (z_iret d_X5_findSame_39 rfl (qsi (las_at (by omega) q35 (fun k h1 h2 => by rcases Nat.lt_or_ge k m with y | y; exact (fun x => hgt k h1 y ((smP_bk x).trans hb)); exact hno k y h2))) rfl)
