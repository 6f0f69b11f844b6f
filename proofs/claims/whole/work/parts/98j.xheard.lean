/-! ===== CONTRACTS: heard ===== -/
/-- what the component writes for how soon each knows it -/
noncomputable def kbm (H : Nat → Int) (j : Nat) : Int := qif (H j < 999) (H j) (-1)
def hrI (n : Nat) (H : Nat → Int) : Prop := ∀ i, i < n → 0 ≤ H i ∧ (H i = 999 ∨ H i ≤ 2 * cnt (fun j => H j < 999) n - 2)
theorem cnt_mn {p q : Nat → Prop} : ∀ {n : Nat}, (∀ k, k < n → p k → q k) → cnt p n ≤ cnt q n
  | 0, _ => Int.le_refl _
  | n + 1, h => by
    have h1 := cnt_mn (fun k hk => h k (Nat.lt_succ_of_lt hk))
    by_cases e : p n
    · rw [cnt_t e, cnt_t (h n (by omega) e)]; omega
    · rw [cnt_f e]
      have := qb_bd (q n)
      show _ ≤ cnt q n + qb (q n)
      omega
theorem cnt_mo {p q : Nat → Prop} {i : Nat} : ∀ {n : Nat}, i < n → (∀ k, k < n → p k → q k) → ¬ p i → q i → cnt p n + 1 ≤ cnt q n
  | 0, h, _, _, _ => absurd h (by omega)
  | n + 1, hi, h, h1, h2 => by
    by_cases e : i = n
    · subst e
      have := cnt_mn (n := i) (fun k hk => h k (by omega))
      rw [cnt_f h1, cnt_t h2]; omega
    · have h3 := cnt_mo (n := n) (by omega) (fun k hk => h k (by omega)) h1 h2
      by_cases e2 : p n
      · rw [cnt_t e2, cnt_t (h n (by omega) e2)]; omega
      · rw [cnt_f e2]
        have := qb_bd (q n)
        show _ ≤ cnt q n + qb (q n)
        omega
section Hr
variable {N H : Nat → Int} {n i d : Nat} {k : Int}
theorem hr_same (h : ¬ (hrT N n d i ≠ -1 ∧ N (64 + i) = 0) ∨ H i ≤ H (hrT N n d i).toNat + 1 + N (96 + i)) : hrX N n H i d = H := by
  by_cases e : hrT N n d i ≠ -1 ∧ N (64 + i) = 0
  · have h1 := h.resolve_left (fun z => z e)
    rw [hrX_t e.1 e.2]
    refine qup_self ?_
    split <;> omega
  · exact hrX_f e
theorem hr_set (h1 : hrT N n d i ≠ -1) (h2 : N (64 + i) = 0) (h3 : H (hrT N n d i).toNat + 1 + N (96 + i) < H i) : hrX N n H i d = qup H i (H (hrT N n d i).toNat + 1 + N (96 + i)) := by
  rw [hrX_t h1 h2, if_neg (by omega)]
theorem hrI_X (hi : i < n) (hn : n ≤ 32) (hL : 0 ≤ N (96 + i) ∧ N (96 + i) ≤ 1) (hI : hrI n H) : hrI n (hrX N n H i d) := by
  by_cases e : hrT N n d i ≠ -1 ∧ N (64 + i) = 0
  · by_cases e2 : H i ≤ H (hrT N n d i).toNat + 1 + N (96 + i)
    · rw [hr_same (Or.inr e2)]; exact hI
    · rw [hr_set e.1 e.2 (by omega)]
      have ht := hrT_bd (N := N) (d := d) hi
      have hT := hI (hrT N n d i).toNat (by omega)
      have hi1 := hI i hi
      have c1 := cnt_bd (fun j => H j < 999) n
      have c2 := cnt_mn (n := n) (p := fun j => H j < 999) (q := fun j => qup H i (H (hrT N n d i).toNat + 1 + N (96 + i)) j < 999) (fun j _ hp => by
        by_cases z : j = i
        · rw [z, qup_eq]; omega
        · rw [qup_ne z]; exact hp)
      intro j hj
      by_cases z : j = i
      · rw [z, qup_eq]
        refine ⟨by omega, Or.inr ?_⟩
        by_cases y : H i = 999
        · have c3 := cnt_mo (n := n) (p := fun j => H j < 999) (q := fun j => qup H i (H (hrT N n d i).toNat + 1 + N (96 + i)) j < 999) hi (fun j _ hp => by
            by_cases z : j = i
            · rw [z, qup_eq]; omega
            · rw [qup_ne z]; exact hp) (by omega) (by rw [qup_eq]; omega)
          omega
        · omega
      · rw [qup_ne z]
        have := hI j hj
        omega
  · rw [hrX_f e]; exact hI
theorem hrI_S (hn : n ≤ 32) (hL : ∀ j, j < 32 → 0 ≤ N (96 + j) ∧ N (96 + j) ≤ 1) (hI : hrI n H) : ∀ i, i ≤ n → hrI n (hrS N n H i)
  | 0, _ => hI
  | i + 1, hi => hrI_X (by omega) hn (hL i (by omega)) (hrI_X (by omega) hn (hL i (by omega)) (hrI_S hn hL hI i (by omega)))
theorem hrI_0 (hk : 0 ≤ k ∧ k < n) : hrI n (hrR N n k 0) := by
  intro i hi
  have e : hrR N n k 0 i = qif ((i : Int) ≠ k) 999 0 := rfl
  by_cases z : (i : Int) = k
  · rw [e, qif_f (fun y => y z)]
    refine ⟨by omega, Or.inr ?_⟩
    have := cnt_mo (n := n) (p := fun _ => False) (q := fun j => hrR N n k 0 j < 999) hi (fun _ _ y => y.elim) id (by show hrR N n k 0 i < 999; rw [e, qif_f (fun y => y z)]; decide)
    have h2 := cnt_bd (fun _ : Nat => False) n
    omega
  · rw [e, qif_t z]; exact ⟨by decide, Or.inl rfl⟩
theorem hrI_R (hn : n ≤ 32) (hL : ∀ j, j < 32 → 0 ≤ N (96 + j) ∧ N (96 + j) ≤ 1) (hk : 0 ≤ k ∧ k < n) : ∀ r, hrI n (hrR N n k r)
  | 0 => hrI_0 hk
  | r + 1 => hrI_S hn hL (hrI_R hn hL hk r) n (Nat.le_refl _)
theorem hrR_st {r : Nat} (h : hrR N n k (r + 1) = hrR N n k r) : ∀ s, hrR N n k (r + s) = hrR N n k r
  | 0 => rfl
  | s + 1 => by
    show hrS N n (hrR N n k (r + s)) n = _
    rw [hrR_st h s]; exact h
theorem kbm_no {j : Nat} (h : 0 ≤ H j) : kbm H j = -1 ↔ ¬ H j < 999 := by
  unfold kbm
  by_cases e : H j < 999
  · rw [qif_t e]; omega
  · rw [qif_f e]; exact ⟨fun _ => e, fun _ => rfl⟩
theorem kbm_t {j : Nat} (h : H j < 999) : kbm H j = H j := qif_t h
end Hr
set_option maxRecDepth 20000 in
set_option maxHeartbeats 4000000 in
theorem c_hears {h : qH} {F G : Nat → Nat → Int} {n i d : Nat} {N H : Nat → Int} (hW : wlR F G 56 N) (hO : wOk N) (hN : N 160 = (n : Int)) (hn : n ≤ 32) (hD : ∀ j, j < 32 → 0 ≤ N (64 + j) ∧ N (64 + j) ≤ 1) (hL : ∀ j, j < 32 → 0 ≤ N (96 + j) ∧ N (96 + j) ≤ 1) (hi : i < n) (hI : hrI n H) (hK : ∀ j, j < n → G 219 j = kbm H j) : ∃ F' G', (F' = F ∧ (∀ a, a ≠ 219 → G' a = G a) ∧ ∀ j, j < n → G' 219 j = kbm (hrX N n H i d) j) ∧ qEx M_X11_hearsFrom 0 [qR 2, qI (i : Int), qI (hrT N n d i), qU] [] (xput h F G) (some (qI (qb (hrX N n H i d i ≠ H i)))) (xput h F' G') := by
  refine x_in (fun Q hQ => ?_)
  have hb := hrT_bd (N := N) (d := d) hi
  have hIi := hI i hi
  have hLi := hL i (by omega)
  have hc9 := cnt_bd (fun j => H j < 999) n
  refine qy (fun _ _ k9 => z_iload_n d_X11_hearsFrom_0 rfl rfl k9) ?_
  refine qy (fun _ _ k9 => z_iconst d_X11_hearsFrom_1 (by decide) k9) ?_
  refine qy2 (fun _ _ => z_icmp_eq 29 d_X11_hearsFrom_2 (by decide)) (fun q2 => ?_) (fun q2 => ?_)
  · refine qy (fun _ _ k9 => z_iconst d_X11_hearsFrom_29 (by decide) k9) ?_
    exact y_ret (hQ F G (⟨rfl, fun _ _ => rfl, fun j hj => (by rw [hr_same (Or.inl (fun z => z.1 (by omega)))]; exact hK j hj)⟩)) (z_zret d_X11_hearsFrom_30 rfl (by first | exact qb_01 _ | decide | omega) (qsi (qb_f (fun z => z (by rw [hr_same (Or.inl (fun z => z.1 (by omega)))])))) rfl)
  · have hIt := hI (hrT N n d i).toNat (by omega)
    refine qy (fun _ _ k9 => z_aload_n d_X11_hearsFrom_5 rfl rfl k9) ?_
    refine qy (fun _ _ k9 => z_getf (v := qR 219) d_X11_hearsFrom_6 fl_X11_58 (xput_ob (c := (F 2)) xi_2 rfl (xsh_11 xo_2)) rfl k9) ?_
    refine qy (fun _ _ k9 => z_iload_n d_X11_hearsFrom_9 rfl rfl k9) ?_
    refine qy (fun _ _ k9 => z_ild ((hrT N n d i).toNat) d_X11_hearsFrom_10 (xput_ar (g := (G 219)) xa_219 rfl) (by omega) (by omega) k9) ?_
    refine qy (fun _ _ k9 => z_eq rfl (qc (qi (show ((G 219) ((hrT N n d i).toNat)) = (kbm H (hrT N n d i).toNat) from hK _ (by omega))) rfl) rfl k9) ?_
    refine qy (fun _ _ k9 => z_iconst d_X11_hearsFrom_11 (by decide) k9) ?_
    refine qy2 (fun _ _ => z_icmp_eq 29 d_X11_hearsFrom_12 (by decide)) (fun q12 => ?_) (fun q12 => ?_)
    · refine qy (fun _ _ k9 => z_iconst d_X11_hearsFrom_29 (by decide) k9) ?_
      exact y_ret (hQ F G (⟨rfl, fun _ _ => rfl, fun j hj => (by rw [hr_same (Or.inr (by have h9 := (kbm_no (hI (hrT N n d i).toNat (by omega)).1).mp q12; omega))]; exact hK j hj)⟩)) (z_zret d_X11_hearsFrom_30 rfl (by first | exact qb_01 _ | decide | omega) (qsi (qb_f (fun z => z (by rw [hr_same (Or.inr (by have h9 := (kbm_no (hI (hrT N n d i).toNat (by omega)).1).mp q12; omega))])))) rfl)
    · refine qy (fun _ _ k9 => z_aload_n d_X11_hearsFrom_15 rfl rfl k9) ?_
      refine qy (fun _ _ k9 => z_getf (v := qR 3) d_X11_hearsFrom_16 fl_X11_12 (xput_ob (c := (F 2)) xi_2 rfl (xsh_11 xo_2)) rfl k9) ?_
      refine qy (fun _ _ k9 => z_getf (v := qR 56) d_X11_hearsFrom_19 fl_X11_66 (xput_ob (c := (F 3)) xi_3 rfl (xsh_8 xo_3)) rfl k9) ?_
      refine qy (fun _ _ k9 => z_iload_n d_X11_hearsFrom_22 rfl rfl k9) ?_
      refine qy (fun _ _ k9 => z_cv (M1 := M_X10_isDeaf) d_X11_hearsFrom_23 lv_X11_112 k_X10_isDeaf [qI (i : Int)] rfl rfl (xput_ob (c := (F 56)) xi_56 rfl (xsh_10 xo_56)) ⟨_, _, rfl⟩ (Nat.le_of_ble_eq_true rfl) (by decide) (by decide) (Nat.le_of_ble_eq_true rfl) (c_wlDeaf (wl := 56) i (by decide) xo_56 hW hO hN (by omega)) k9) ?_
      refine qy2n (fun _ _ => z_ifeqB 31 d_X11_hearsFrom_26 (by decide)) (fun q26 => ?_) (fun q26 => ?_)
      · have hlt : H (hrT N n d i).toNat < 999 := Classical.not_not.mp (fun z => q12 ((kbm_no hIt.1).mpr z))
        refine qy (fun _ _ k9 => z_aload_n d_X11_hearsFrom_31 rfl rfl k9) ?_
        refine qy (fun _ _ k9 => z_getf (v := qR 219) d_X11_hearsFrom_32 fl_X11_58 (xput_ob (c := (F 2)) xi_2 rfl (xsh_11 xo_2)) rfl k9) ?_
        refine qy (fun _ _ k9 => z_iload_n d_X11_hearsFrom_35 rfl rfl k9) ?_
        refine qy (fun _ _ k9 => z_ild ((hrT N n d i).toNat) d_X11_hearsFrom_36 (xput_ar (g := (G 219)) xa_219 rfl) (by omega) (by omega) k9) ?_
        refine qy (fun _ _ k9 => z_eq rfl (qc (qi (show ((G 219) ((hrT N n d i).toNat)) = (H (hrT N n d i).toNat) from by rw [hK _ (by omega)]; exact kbm_t hlt)) rfl) rfl k9) ?_
        refine qy (fun _ _ k9 => z_aload_n d_X11_hearsFrom_37 rfl rfl k9) ?_
        refine qy (fun _ _ k9 => z_getf (v := qR 3) d_X11_hearsFrom_38 fl_X11_12 (xput_ob (c := (F 2)) xi_2 rfl (xsh_11 xo_2)) rfl k9) ?_
        refine qy (fun _ _ k9 => z_getf (v := qR 56) d_X11_hearsFrom_41 fl_X11_66 (xput_ob (c := (F 3)) xi_3 rfl (xsh_8 xo_3)) rfl k9) ?_
        refine qy (fun _ _ k9 => z_iload_n d_X11_hearsFrom_44 rfl rfl k9) ?_
        refine qy (fun _ _ k9 => z_cv (M1 := M_X10_isLate) d_X11_hearsFrom_45 lv_X11_115 k_X10_isLate [qI (i : Int)] rfl rfl (xput_ob (c := (F 56)) xi_56 rfl (xsh_10 xo_56)) ⟨_, _, rfl⟩ (Nat.le_of_ble_eq_true rfl) (by decide) (by decide) (Nat.le_of_ble_eq_true rfl) (c_wlLate (wl := 56) i (by decide) xo_56 hW hO hN (by omega)) k9) ?_
        suffices kJ48 : qEy M_X11_hearsFrom 56 [qR 2, qI (i : Int), qI (hrT N n d i), qU] [qI (qif (¬ (N (96 + i) = 1)) 1 2), qI (H (hrT N n d i).toNat)] (xput h F G) Q by
          refine qy2n (fun _ _ => z_ifeqB 55 d_X11_hearsFrom_48 (by decide)) (fun hc1 => ?_) (fun hc1 => ?_)
          · refine qy (fun _ _ k9 => z_iconst d_X11_hearsFrom_55 (by decide) k9) ?_
            exact qy (fun _ _ k9 => z_eq rfl (qc (qi (qif_t hc1).symm) (qc rfl rfl)) rfl k9) kJ48
          · refine qy (fun _ _ k9 => z_iconst d_X11_hearsFrom_51 (by decide) k9) ?_
            refine qy (fun _ _ k9 => z_goto 56 d_X11_hearsFrom_52 (by decide) k9) ?_
            exact qy (fun _ _ k9 => z_eq rfl (qc (qi (qif_f (fun z => z hc1)).symm) (qc rfl rfl)) rfl k9) kJ48
        refine qy (fun _ _ k9 => z_eq rfl (qc (qi (show (qif (¬ (N (96 + i) = 1)) 1 2) = (1 + N (96 + i)) from by by_cases z : N (96 + i) = 1; (rw [qif_f (fun y => y z)]; omega); (rw [qif_t z]; omega))) rfl) rfl k9) ?_
        refine qy (fun _ _ k9 => z_iadd d_X11_hearsFrom_56 (by omega) k9) ?_
        refine qy (fun _ _ k9 => z_eq rfl (qc (qi (show ((H (hrT N n d i).toNat) + (1 + N (96 + i))) = (H (hrT N n d i).toNat + 1 + N (96 + i)) from by omega)) rfl) rfl k9) ?_
        refine qy (fun _ _ k9 => z_istore_n (ls' := [qR 2, qI (i : Int), qI (hrT N n d i), qI (H (hrT N n d i).toNat + 1 + N (96 + i))]) d_X11_hearsFrom_57 rfl (by decide) rfl k9) ?_
        refine qy (fun _ _ k9 => z_aload_n d_X11_hearsFrom_58 rfl rfl k9) ?_
        refine qy (fun _ _ k9 => z_getf (v := qR 219) d_X11_hearsFrom_59 fl_X11_58 (xput_ob (c := (F 2)) xi_2 rfl (xsh_11 xo_2)) rfl k9) ?_
        refine qy (fun _ _ k9 => z_iload_n d_X11_hearsFrom_62 rfl rfl k9) ?_
        refine qy (fun _ _ k9 => z_ild i d_X11_hearsFrom_63 (xput_ar (g := (G 219)) xa_219 rfl) rfl (by omega) k9) ?_
        refine qy (fun _ _ k9 => z_eq rfl (qc (qi (show ((G 219) i) = (kbm H i) from hK i (by omega))) rfl) rfl k9) ?_
        refine qy (fun _ _ k9 => z_iconst d_X11_hearsFrom_64 (by decide) k9) ?_
        refine qy2 (fun _ _ => z_icmp_eq 80 d_X11_hearsFrom_65 (by decide)) (fun q65 => ?_) (fun q65 => ?_)
        · have hv9 : (H (hrT N n d i).toNat + 1 + N (96 + i)) < H i := (by have h9 := (kbm_no hIi.1).mp q65; omega)
          have hr9 : hrX N n H i d = qup H i (H (hrT N n d i).toNat + 1 + N (96 + i)) := hr_set q2 (by have := hD i (by omega); omega) hv9
          refine qy (fun _ _ k9 => z_aload_n d_X11_hearsFrom_80 rfl rfl k9) ?_
          refine qy (fun _ _ k9 => z_getf (v := qR 219) d_X11_hearsFrom_81 fl_X11_58 (xput_ob (c := (F 2)) xi_2 rfl (xsh_11 xo_2)) rfl k9) ?_
          refine qy (fun _ _ k9 => z_iload_n d_X11_hearsFrom_84 rfl rfl k9) ?_
          refine qy (fun _ _ k9 => z_iload_n d_X11_hearsFrom_85 rfl rfl k9) ?_
          refine qy (fun _ _ k9 => z_ist i d_X11_hearsFrom_86 (xput_ar (g := (G 219)) xa_219 rfl) (by omega) rfl (by omega) k9) ?_
          refine qy (fun _ _ k9 => z_eq rfl rfl (xput_sa xa_219) k9) ?_
          refine qy (fun _ _ k9 => z_iconst d_X11_hearsFrom_87 (by decide) k9) ?_
          exact y_ret (hQ F (gup G 219 (qup (G 219) i (H (hrT N n d i).toNat + 1 + N (96 + i)))) (⟨rfl, fun a ha => gup_ne ha, fun j hj => (by rw [gup_eq, hr9]; by_cases z : j = i; (rw [z, qup_eq, kbm_t (by rw [qup_eq]; omega), qup_eq]); (rw [qup_ne z, hK j hj]; unfold kbm; rw [qup_ne z]))⟩)) (z_zret d_X11_hearsFrom_88 rfl (by first | exact qb_01 _ | decide | omega) (qsi (qb_t (fun z => (by rw [hr9] at z; rw [qup_eq] at z; omega)))) rfl)
        · refine qy (fun _ _ k9 => z_aload_n d_X11_hearsFrom_68 rfl rfl k9) ?_
          refine qy (fun _ _ k9 => z_getf (v := qR 219) d_X11_hearsFrom_69 fl_X11_58 (xput_ob (c := (F 2)) xi_2 rfl (xsh_11 xo_2)) rfl k9) ?_
          refine qy (fun _ _ k9 => z_iload_n d_X11_hearsFrom_72 rfl rfl k9) ?_
          refine qy (fun _ _ k9 => z_ild i d_X11_hearsFrom_73 (xput_ar (g := (G 219)) xa_219 rfl) rfl (by omega) k9) ?_
          refine qy (fun _ _ k9 => z_eq rfl (qc (qi (show ((G 219) i) = (H i) from by rw [hK i (by omega)]; exact kbm_t (Classical.not_not.mp (fun z => q65 ((kbm_no hIi.1).mpr z))))) rfl) rfl k9) ?_
          refine qy (fun _ _ k9 => z_iload_n d_X11_hearsFrom_74 rfl rfl k9) ?_
          refine qy2 (fun _ _ => z_icmp_gt 80 d_X11_hearsFrom_75 (by decide)) (fun q75 => ?_) (fun q75 => ?_)
          · have hv9 : (H (hrT N n d i).toNat + 1 + N (96 + i)) < H i := (by omega)
            have hr9 : hrX N n H i d = qup H i (H (hrT N n d i).toNat + 1 + N (96 + i)) := hr_set q2 (by have := hD i (by omega); omega) hv9
            refine qy (fun _ _ k9 => z_aload_n d_X11_hearsFrom_80 rfl rfl k9) ?_
            refine qy (fun _ _ k9 => z_getf (v := qR 219) d_X11_hearsFrom_81 fl_X11_58 (xput_ob (c := (F 2)) xi_2 rfl (xsh_11 xo_2)) rfl k9) ?_
            refine qy (fun _ _ k9 => z_iload_n d_X11_hearsFrom_84 rfl rfl k9) ?_
            refine qy (fun _ _ k9 => z_iload_n d_X11_hearsFrom_85 rfl rfl k9) ?_
            refine qy (fun _ _ k9 => z_ist i d_X11_hearsFrom_86 (xput_ar (g := (G 219)) xa_219 rfl) (by omega) rfl (by omega) k9) ?_
            refine qy (fun _ _ k9 => z_eq rfl rfl (xput_sa xa_219) k9) ?_
            refine qy (fun _ _ k9 => z_iconst d_X11_hearsFrom_87 (by decide) k9) ?_
            exact y_ret (hQ F (gup G 219 (qup (G 219) i (H (hrT N n d i).toNat + 1 + N (96 + i)))) (⟨rfl, fun a ha => gup_ne ha, fun j hj => (by rw [gup_eq, hr9]; by_cases z : j = i; (rw [z, qup_eq, kbm_t (by rw [qup_eq]; omega), qup_eq]); (rw [qup_ne z, hK j hj]; unfold kbm; rw [qup_ne z]))⟩)) (z_zret d_X11_hearsFrom_88 rfl (by first | exact qb_01 _ | decide | omega) (qsi (qb_t (fun z => (by rw [hr9] at z; rw [qup_eq] at z; omega)))) rfl)
          · refine qy (fun _ _ k9 => z_iconst d_X11_hearsFrom_78 (by decide) k9) ?_
            exact y_ret (hQ F G (⟨rfl, fun _ _ => rfl, fun j hj => (by rw [hr_same (Or.inr (by omega))]; exact hK j hj)⟩)) (z_zret d_X11_hearsFrom_79 rfl (by first | exact qb_01 _ | decide | omega) (qsi (qb_f (fun z => z (by rw [hr_same (Or.inr (by omega))])))) rfl)
      · refine qy (fun _ _ k9 => z_iconst d_X11_hearsFrom_29 (by decide) k9) ?_
        exact y_ret (hQ F G (⟨rfl, fun _ _ => rfl, fun j hj => (by rw [hr_same (Or.inl (fun z => (by omega)))]; exact hK j hj)⟩)) (z_zret d_X11_hearsFrom_30 rfl (by first | exact qb_01 _ | decide | omega) (qsi (qb_f (fun z => z (by rw [hr_same (Or.inl (fun z => (by omega)))])))) rfl)
