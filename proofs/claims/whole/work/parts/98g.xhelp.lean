/-! ===== CONTRACTS: BeaconWall's helpers ===== -/
def kAct (k v : Int) : Int := if k = 0 then (if 0 ≤ v ∧ v ≤ 7 then 0 else -1) else if k = 3 then (if 0 ≤ v ∧ v ≤ 3 then 5 else -1) else if ¬ (0 ≤ v ∧ v ≤ 1) then -1 else if k = 1 then (if v = 1 then 1 else 2) else if k = 2 then (if v = 1 then 3 else 4) else -1
theorem eu_s {x y i B : Nat} (hy : y ≠ 0) (h : x * y * 2 ^ i ≤ B) (hB : x * y * 2 ≤ B ∨ 1 ≤ i) (h1 : 1 ≤ i → y < x) : y * (x % y) * 2 ^ (i + 1) ≤ B := by
  by_cases z : 1 ≤ i
  · have hx := h1 z
    have e1 := Nat.div_add_mod x y
    have e2 : 1 ≤ x / y := Nat.div_pos (by omega) (by omega)
    have e3 : y * 1 ≤ y * (x / y) := Nat.mul_le_mul_left _ e2
    have e4 := Nat.mod_lt x (show 0 < y by omega)
    have e5 : 2 * (x % y) ≤ x := by omega
    have e6 : y * (2 * (x % y)) * 2 ^ i ≤ y * x * 2 ^ i := Nat.mul_le_mul_right _ (Nat.mul_le_mul_left _ e5)
    have e7 : y * (x % y) * 2 ^ (i + 1) = y * (2 * (x % y)) * 2 ^ i := by
      rw [Nat.pow_succ, ← Nat.mul_assoc, Nat.mul_left_comm y 2, Nat.mul_assoc 2, Nat.mul_comm 2]
    rw [e7]
    rw [Nat.mul_comm y x] at e6
    exact Nat.le_trans e6 h
  · have e0 : i = 0 := by omega
    subst e0
    have e5 : y * (x % y) ≤ y * x := Nat.mul_le_mul_left _ (Nat.mod_le _ _)
    have e6 := hB.resolve_right z
    rw [Nat.mul_comm y x] at e5
    show y * (x % y) * (1 * 2) ≤ B
    omega
theorem eu_e {x y i : Nat} (hy : y ≠ 0) (h : x * y * 2 ^ i ≤ 20000000000000000) (h1 : 1 ≤ i → y < x) : i < 100 := by
  rcases Nat.lt_or_ge i 100 with z | z
  · exact z
  · have hx := h1 (by omega)
    have e1 : 1 ≤ x * y := Nat.mul_pos (by omega) (by omega)
    have e2 : 2 ^ 100 ≤ 2 ^ i := Nat.pow_le_pow_right (by decide) z
    have e3 : 1 * 2 ^ i ≤ x * y * 2 ^ i := Nat.mul_le_mul_right _ e1
    rw [Nat.one_mul] at e3
    exact absurd (Nat.le_trans e2 (Nat.le_trans e3 h)) (by decide)
set_option maxRecDepth 20000 in
set_option maxHeartbeats 4000000 in
theorem c_kind {h : qH} {F G : Nat → Nat → Int} (k v : Int)  : qEx M_X11_kindOfAct 0 [qI k, qI v] [] (xput h F G) (some (qI (kAct k v))) (xput h F G) := by
  refine q_gen (fun r hr er eh => ?_)
  refine z_iload_n d_X11_kindOfAct_0 rfl rfl ?_
  refine z_if_ne 20 d_X11_kindOfAct_1 (by decide) (fun hc1 => ?_) (fun hc1 => ?_)
  · refine z_iload_n d_X11_kindOfAct_20 rfl rfl ?_
    refine z_iconst d_X11_kindOfAct_21 (by decide) ?_
    refine z_icmp_ne 40 d_X11_kindOfAct_22 (by decide) (fun hc2 => ?_) (fun hc2 => ?_)
    · refine z_iload_n d_X11_kindOfAct_40 rfl rfl ?_
      refine z_iconst d_X11_kindOfAct_41 (by decide) ?_
      refine z_iconst d_X11_kindOfAct_42 (by decide) ?_
      refine z_cs (M1 := M_X11_isWithin) d_X11_kindOfAct_43 ls_X11_62 k_X11_isWithin [qI v, qI 0, qI 1] rfl rfl (Nat.le_of_ble_eq_true rfl) (by decide) (by decide) (Nat.le_of_ble_eq_true rfl) (c_isWithin v 0 1) ?_
      refine z_ifneB 51 d_X11_kindOfAct_46 (by decide) (fun hc3 => ?_) (fun hc3 => ?_)
      · refine z_iload_n d_X11_kindOfAct_51 rfl rfl ?_
        refine z_iconst d_X11_kindOfAct_52 (by decide) ?_
        refine z_icmp_ne 67 d_X11_kindOfAct_53 (by decide) (fun hc4 => ?_) (fun hc4 => ?_)
        · refine z_iload_n d_X11_kindOfAct_67 rfl rfl ?_
          refine z_iconst d_X11_kindOfAct_68 (by decide) ?_
          refine z_icmp_ne 83 d_X11_kindOfAct_69 (by decide) (fun hc5 => ?_) (fun hc5 => ?_)
          · refine z_iconst d_X11_kindOfAct_83 (by decide) ?_
            exact z_iret d_X11_kindOfAct_84 rfl (qer er (by unfold kAct; (try simp only [qif_eq]); repeat' split <;> omega)) eh
          · refine z_iload_n d_X11_kindOfAct_72 rfl rfl ?_
            refine z_iconst d_X11_kindOfAct_73 (by decide) ?_
            suffices kJ74 : qEx M_X11_kindOfAct 82 [qI k, qI v] [qI (qif (v ≠ 1) 4 3)] (xput h F G) r hr by
              refine z_icmp_ne 81 d_X11_kindOfAct_74 (by decide) (fun hc6 => ?_) (fun hc6 => ?_)
              · refine z_iconst d_X11_kindOfAct_81 (by decide) ?_
                exact z_eq rfl (qc (qi (qif_t hc6).symm) rfl) rfl kJ74
              · refine z_iconst d_X11_kindOfAct_77 (by decide) ?_
                refine z_goto 82 d_X11_kindOfAct_78 (by decide) ?_
                exact z_eq rfl (qc (qi (qif_f hc6).symm) rfl) rfl kJ74
            exact z_iret d_X11_kindOfAct_82 rfl (qer er (by unfold kAct; (try simp only [qif_eq]); repeat' split <;> omega)) eh
        · refine z_iload_n d_X11_kindOfAct_56 rfl rfl ?_
          refine z_iconst d_X11_kindOfAct_57 (by decide) ?_
          suffices kJ58 : qEx M_X11_kindOfAct 66 [qI k, qI v] [qI (qif (v ≠ 1) 2 1)] (xput h F G) r hr by
            refine z_icmp_ne 65 d_X11_kindOfAct_58 (by decide) (fun hc7 => ?_) (fun hc7 => ?_)
            · refine z_iconst d_X11_kindOfAct_65 (by decide) ?_
              exact z_eq rfl (qc (qi (qif_t hc7).symm) rfl) rfl kJ58
            · refine z_iconst d_X11_kindOfAct_61 (by decide) ?_
              refine z_goto 66 d_X11_kindOfAct_62 (by decide) ?_
              exact z_eq rfl (qc (qi (qif_f hc7).symm) rfl) rfl kJ58
          exact z_iret d_X11_kindOfAct_66 rfl (qer er (by unfold kAct; (try simp only [qif_eq]); repeat' split <;> omega)) eh
      · refine z_iconst d_X11_kindOfAct_49 (by decide) ?_
        exact z_iret d_X11_kindOfAct_50 rfl (qer er (by unfold kAct; (try simp only [qif_eq]); repeat' split <;> omega)) eh
    · refine z_iload_n d_X11_kindOfAct_25 rfl rfl ?_
      refine z_iconst d_X11_kindOfAct_26 (by decide) ?_
      refine z_iconst d_X11_kindOfAct_27 (by decide) ?_
      refine z_cs (M1 := M_X11_isWithin) d_X11_kindOfAct_28 ls_X11_62 k_X11_isWithin [qI v, qI 0, qI 3] rfl rfl (Nat.le_of_ble_eq_true rfl) (by decide) (by decide) (Nat.le_of_ble_eq_true rfl) (c_isWithin v 0 3) ?_
      suffices kJ31 : qEx M_X11_kindOfAct 39 [qI k, qI v] [qI (qif (¬ (0 ≤ v ∧ v ≤ 3)) (-1) 5)] (xput h F G) r hr by
        refine z_ifeqB 38 d_X11_kindOfAct_31 (by decide) (fun hc8 => ?_) (fun hc8 => ?_)
        · refine z_iconst d_X11_kindOfAct_38 (by decide) ?_
          exact z_eq rfl (qc (qi (qif_t hc8).symm) rfl) rfl kJ31
        · refine z_iconst d_X11_kindOfAct_34 (by decide) ?_
          refine z_goto 39 d_X11_kindOfAct_35 (by decide) ?_
          exact z_eq rfl (qc (qi (qif_f (fun z => z hc8)).symm) rfl) rfl kJ31
      exact z_iret d_X11_kindOfAct_39 rfl (qer er (by unfold kAct; (try simp only [qif_eq]); repeat' split <;> omega)) eh
  · refine z_iload_n d_X11_kindOfAct_4 rfl rfl ?_
    refine z_iconst d_X11_kindOfAct_5 (by decide) ?_
    refine z_bipush d_X11_kindOfAct_6 (by decide) ?_
    refine z_cs (M1 := M_X11_isWithin) d_X11_kindOfAct_8 ls_X11_62 k_X11_isWithin [qI v, qI 0, qI 7] rfl rfl (Nat.le_of_ble_eq_true rfl) (by decide) (by decide) (Nat.le_of_ble_eq_true rfl) (c_isWithin v 0 7) ?_
    suffices kJ11 : qEx M_X11_kindOfAct 19 [qI k, qI v] [qI (qif (¬ (0 ≤ v ∧ v ≤ 7)) (-1) 0)] (xput h F G) r hr by
      refine z_ifeqB 18 d_X11_kindOfAct_11 (by decide) (fun hc9 => ?_) (fun hc9 => ?_)
      · refine z_iconst d_X11_kindOfAct_18 (by decide) ?_
        exact z_eq rfl (qc (qi (qif_t hc9).symm) rfl) rfl kJ11
      · refine z_iconst d_X11_kindOfAct_14 (by decide) ?_
        refine z_goto 19 d_X11_kindOfAct_15 (by decide) ?_
        exact z_eq rfl (qc (qi (qif_f (fun z => z hc9)).symm) rfl) rfl kJ11
    exact z_iret d_X11_kindOfAct_19 rfl (qer er (by unfold kAct; (try simp only [qif_eq]); repeat' split <;> omega)) eh
set_option maxRecDepth 20000 in
set_option maxHeartbeats 4000000 in
theorem c_gcd0 {h : qH} {F G : Nat → Nat → Int} {a b : Nat} (ha : a ≤ 100000000) (hb : b ≤ 100000000) : ∃ F' G', (F' = F ∧ G' = G) ∧ qEx M_X11_commonDivisor 0 [qI (a : Int), qI (b : Int), qU, qU, qU, qU] [] (xput h F G) (some (qI (((Nat.gcd a b) : Nat) : Int))) (xput h F' G') := by
  refine x_in (fun Q hQ => ?_)
  have hab : a * b ≤ 100000000 * 100000000 := Nat.mul_le_mul ha hb
  refine qy (fun _ _ k9 => z_iload_n d_X11_commonDivisor_0 rfl rfl k9) ?_
  refine qy (fun _ _ k9 => z_istore_n (ls' := [qI (a : Int), qI (b : Int), qI (a : Int), qU, qU, qU]) d_X11_commonDivisor_1 rfl (by decide) rfl k9) ?_
  refine qy (fun _ _ k9 => z_iload_n d_X11_commonDivisor_2 rfl rfl k9) ?_
  refine qy (fun _ _ k9 => z_istore_n (ls' := [qI (a : Int), qI (b : Int), qI (a : Int), qI (b : Int), qU, qU]) d_X11_commonDivisor_3 rfl (by decide) rfl k9) ?_
  refine qy (fun _ _ k9 => z_iconst d_X11_commonDivisor_4 (by decide) k9) ?_
  refine qy (fun _ _ k9 => z_istore (ls' := [qI (a : Int), qI (b : Int), qI (a : Int), qI (b : Int), qI 0, qU]) d_X11_commonDivisor_5 (by decide) rfl k9) ?_
  refine qy (fun _ _ k9 => z_eq (qc rfl (qc rfl (qc rfl (qc rfl (qc (qi (rfl)) (qc rfl rfl)))))) rfl rfl k9) (y_wh3 (fun (i : Nat) (x : Nat) (y : Nat) => 100 - i) (fun (i : Nat) (x : Nat) (y : Nat) => [qI (a : Int), qI (b : Int), qI (x : Int), qI (y : Int), qI (i : Int), qU]) (fun (i : Nat) (x : Nat) (y : Nat) => (xput h F G)) (fun (i : Nat) (x : Nat) (y : Nat) => (x ≤ 100000000 ∧ y ≤ 100000000 ∧ i ≤ 100) ∧ Nat.gcd x y = Nat.gcd a b ∧ x * y * 2 ^ i ≤ 20000000000000000 ∧ (1 ≤ i → y < x)) 0 a b (⟨⟨ha, hb, by omega⟩, rfl, by rw [Nat.pow_zero]; omega, fun z => absurd z (by omega)⟩) (fun i x y hp kk => ?_))
  obtain ⟨⟨hx, hy, hi⟩, hg, hq, h1⟩ := hp
  show qEy M_X11_commonDivisor 7 [qI (a : Int), qI (b : Int), qI (x : Int), qI (y : Int), qI (i : Int), qU] [] (xput h F G) Q
  refine qy (fun _ _ k9 => z_iload d_X11_commonDivisor_7 rfl k9) ?_
  refine qy (fun _ _ k9 => z_bipush d_X11_commonDivisor_9 (by decide) k9) ?_
  refine qy2 (fun _ _ => z_icmp_ge 34 d_X11_commonDivisor_11 (by decide)) (fun q11 => ?_) (fun q11 => ?_)
  · refine qy (fun _ _ k9 => z_iload_n d_X11_commonDivisor_34 rfl rfl k9) ?_
    exact y_ret (hQ F G (⟨rfl, rfl⟩)) (z_iret d_X11_commonDivisor_35 rfl (qsi (by have hy0 : y = 0 := (by rcases Nat.eq_zero_or_pos y with z | z; exact z; have := eu_e (by omega) hq h1; omega); rw [← hg, hy0, Nat.gcd_zero_right])) rfl)
  · refine qy (fun _ _ k9 => z_iload_n d_X11_commonDivisor_14 rfl rfl k9) ?_
    refine qy2 (fun _ _ => z_if_eq 34 d_X11_commonDivisor_15 (by decide)) (fun q15 => ?_) (fun q15 => ?_)
    · refine qy (fun _ _ k9 => z_iload_n d_X11_commonDivisor_34 rfl rfl k9) ?_
      exact y_ret (hQ F G (⟨rfl, rfl⟩)) (z_iret d_X11_commonDivisor_35 rfl (qsi (by have hy0 : y = 0 := (by omega); rw [← hg, hy0, Nat.gcd_zero_right])) rfl)
    · refine qy (fun _ _ k9 => z_iload_n d_X11_commonDivisor_18 rfl rfl k9) ?_
      refine qy (fun _ _ k9 => z_iload_n d_X11_commonDivisor_19 rfl rfl k9) ?_
      refine qy (fun _ _ k9 => z_irem d_X11_commonDivisor_20 (by omega) k9) ?_
      refine qy (fun _ _ k9 => z_istore (ls' := [qI (a : Int), qI (b : Int), qI (x : Int), qI (y : Int), qI (i : Int), qI (Int.tmod (x : Int) (y : Int))]) d_X11_commonDivisor_21 (by decide) rfl k9) ?_
      refine qy (fun _ _ k9 => z_eq (qc rfl (qc rfl (qc rfl (qc rfl (qc rfl (qc (qi (show (Int.tmod (x : Int) (y : Int)) = (((x % y) : Nat) : Int) from (by rw [Int.tmod_eq_emod_of_nonneg (by omega)] <;> omega))) rfl)))))) rfl rfl k9) ?_
      refine qy (fun _ _ k9 => z_iload_n d_X11_commonDivisor_23 rfl rfl k9) ?_
      refine qy (fun _ _ k9 => z_istore_n (ls' := [qI (a : Int), qI (b : Int), qI (y : Int), qI (y : Int), qI (i : Int), qI (((x % y) : Nat) : Int)]) d_X11_commonDivisor_24 rfl (by decide) rfl k9) ?_
      refine qy (fun _ _ k9 => z_iload d_X11_commonDivisor_25 rfl k9) ?_
      refine qy (fun _ _ k9 => z_istore_n (ls' := [qI (a : Int), qI (b : Int), qI (y : Int), qI (((x % y) : Nat) : Int), qI (i : Int), qI (((x % y) : Nat) : Int)]) d_X11_commonDivisor_27 rfl (by decide) rfl k9) ?_
      refine qy (fun _ _ k9 => z_iinc (ls' := [qI (a : Int), qI (b : Int), qI (y : Int), qI (((x % y) : Nat) : Int), qI ((i : Int) + 1), qI (((x % y) : Nat) : Int)]) d_X11_commonDivisor_28 rfl (by decide) (by omega) rfl k9) ?_
      refine qy (fun _ _ k9 => z_goto 7 d_X11_commonDivisor_31 (by decide) k9) ?_
      exact qy (fun _ _ k9 => z_dr (qle_k rfl (qle_k rfl (qle_k rfl (qle_k rfl (qle_k (qi (by omega)) (qle_d qle_n)))))) rfl rfl k9) (kk (i + 1) y (x % y) (⟨⟨hy, by have := Nat.mod_lt x (show 0 < y by omega); omega, by omega⟩, by rw [← hg, Nat.gcd_comm y, ← Nat.gcd_rec, Nat.gcd_comm], eu_s (by omega) hq ((Nat.eq_zero_or_pos i).imp (fun z => by have := Nat.mul_le_mul hx hy; omega) id) h1, fun _ => Nat.mod_lt x (by omega)⟩) (by omega))
theorem c_gcd {h : qH} {F G : Nat → Nat → Int} {a b : Nat} (ha : a ≤ 100000000) (hb : b ≤ 100000000) : qEx M_X11_commonDivisor 0 [qI (a : Int), qI (b : Int), qU, qU, qU, qU] [] (xput h F G) (some (qI ((Nat.gcd a b : Nat) : Int))) (xput h F G) := by
  obtain ⟨_, _, ⟨rfl, rfl⟩, hx⟩ := c_gcd0 (h := h) (F := F) (G := G) ha hb
  exact hx
set_option maxRecDepth 20000 in
set_option maxHeartbeats 4000000 in
theorem c_part0 {h : qH} {F G : Nat → Nat → Int} (up low : Int) (hu : -100000000 ≤ up ∧ up ≤ 100000000) (hl : -100000000 ≤ low ∧ low ≤ 100000000) (hl0 : low ≠ 0) : qEx M_X11_partOf 0 [qI up, qI low, qI 1, qU, qU] [] (xput h F G) (some (qI (lowR up low 0))) (xput h F G) := by
  refine q_gen (fun r hr er eh => ?_)
  have hg0 : 0 < Nat.gcd up.natAbs low.natAbs := Nat.gcd_pos_of_pos_right _ (by omega)
  have hg1 : Nat.gcd up.natAbs low.natAbs ≤ low.natAbs := Nat.gcd_le_right _ (by omega)
  refine z_iload_n d_X11_partOf_0 rfl rfl ?_
  refine z_abs d_X11_partOf_1 lb_X11_444 (by decide) (Nat.le_of_ble_eq_true rfl) (by omega) ?_
  refine z_iload_n d_X11_partOf_4 rfl rfl ?_
  refine z_abs d_X11_partOf_5 lb_X11_444 (by decide) (Nat.le_of_ble_eq_true rfl) (by omega) ?_
  refine z_eq rfl (qc rfl (qc (qi (show (if 0 ≤ up then up else 0 - up) = (up.natAbs : Int) from by omega)) rfl)) rfl ?_
  refine z_eq rfl (qc (qi (show (if 0 ≤ low then low else 0 - low) = (low.natAbs : Int) from by omega)) rfl) rfl ?_
  refine z_cs (M1 := M_X11_commonDivisor) d_X11_partOf_8 ls_X11_447 k_X11_commonDivisor [qI (up.natAbs : Int), qI (low.natAbs : Int)] rfl rfl (Nat.le_of_ble_eq_true rfl) (by decide) (by decide) (Nat.le_of_ble_eq_true rfl) (c_gcd (a := up.natAbs) (b := low.natAbs) (by omega) (by omega)) ?_
  refine z_istore_n (ls' := [qI up, qI low, qI 1, qI (((Nat.gcd up.natAbs low.natAbs) : Nat) : Int), qU]) d_X11_partOf_11 rfl (by decide) rfl ?_
  refine z_iload_n d_X11_partOf_12 rfl rfl ?_
  refine z_if_ne 20 d_X11_partOf_13 (by decide) (fun hc1 => ?_) (fun hc1 => absurd hc1 (by omega))
  refine z_iload_n d_X11_partOf_20 rfl rfl ?_
  suffices kJ21 : qEx M_X11_partOf 29 [qI up, qI low, qI 1, qI (((Nat.gcd up.natAbs low.natAbs) : Nat) : Int), qU] [qI (qif (low ≥ 0) 1 (-1))] (xput h F G) r hr by
    refine z_if_ge 28 d_X11_partOf_21 (by decide) (fun hc2 => ?_) (fun hc2 => ?_)
    · refine z_iconst d_X11_partOf_28 (by decide) ?_
      exact z_eq rfl (qc (qi (qif_t hc2).symm) rfl) rfl kJ21
    · refine z_iconst d_X11_partOf_24 (by decide) ?_
      refine z_goto 29 d_X11_partOf_25 (by decide) ?_
      exact z_eq rfl (qc (qi (qif_f hc2).symm) rfl) rfl kJ21
  refine z_istore (ls' := [qI up, qI low, qI 1, qI (((Nat.gcd up.natAbs low.natAbs) : Nat) : Int), qI (qif (low ≥ 0) 1 (-1))]) d_X11_partOf_29 (by decide) rfl ?_
  refine z_iload d_X11_partOf_31 rfl ?_
  refine z_iload_n d_X11_partOf_33 rfl rfl ?_
  refine z_if_eq 41 d_X11_partOf_34 (by decide) (fun hc3 => absurd hc3 (by decide)) (fun hc3 => ?_)
  refine z_iload_n d_X11_partOf_37 rfl rfl ?_
  refine z_goto 42 d_X11_partOf_38 (by decide) ?_
  refine z_imul d_X11_partOf_42 (by simp only [qif_eq]; split <;> omega) ?_
  refine z_iload_n d_X11_partOf_43 rfl rfl ?_
  refine z_idiv d_X11_partOf_44 (by omega) ?_
  exact z_iret d_X11_partOf_45 rfl (qer er (by unfold lowR; simp only [qif_eq]; first | rfl | (congr 2; split <;> omega) | skip)) eh
set_option maxRecDepth 20000 in
set_option maxHeartbeats 4000000 in
theorem c_part1 {h : qH} {F G : Nat → Nat → Int} (up low : Int) (hu : -100000000 ≤ up ∧ up ≤ 100000000) (hl : -100000000 ≤ low ∧ low ≤ 100000000) (hl0 : low ≠ 0) : qEx M_X11_partOf 0 [qI up, qI low, qI 0, qU, qU] [] (xput h F G) (some (qI (lowR up low 1))) (xput h F G) := by
  refine q_gen (fun r hr er eh => ?_)
  have hg0 : 0 < Nat.gcd up.natAbs low.natAbs := Nat.gcd_pos_of_pos_right _ (by omega)
  have hg1 : Nat.gcd up.natAbs low.natAbs ≤ low.natAbs := Nat.gcd_le_right _ (by omega)
  refine z_iload_n d_X11_partOf_0 rfl rfl ?_
  refine z_abs d_X11_partOf_1 lb_X11_444 (by decide) (Nat.le_of_ble_eq_true rfl) (by omega) ?_
  refine z_iload_n d_X11_partOf_4 rfl rfl ?_
  refine z_abs d_X11_partOf_5 lb_X11_444 (by decide) (Nat.le_of_ble_eq_true rfl) (by omega) ?_
  refine z_eq rfl (qc rfl (qc (qi (show (if 0 ≤ up then up else 0 - up) = (up.natAbs : Int) from by omega)) rfl)) rfl ?_
  refine z_eq rfl (qc (qi (show (if 0 ≤ low then low else 0 - low) = (low.natAbs : Int) from by omega)) rfl) rfl ?_
  refine z_cs (M1 := M_X11_commonDivisor) d_X11_partOf_8 ls_X11_447 k_X11_commonDivisor [qI (up.natAbs : Int), qI (low.natAbs : Int)] rfl rfl (Nat.le_of_ble_eq_true rfl) (by decide) (by decide) (Nat.le_of_ble_eq_true rfl) (c_gcd (a := up.natAbs) (b := low.natAbs) (by omega) (by omega)) ?_
  refine z_istore_n (ls' := [qI up, qI low, qI 0, qI (((Nat.gcd up.natAbs low.natAbs) : Nat) : Int), qU]) d_X11_partOf_11 rfl (by decide) rfl ?_
  refine z_iload_n d_X11_partOf_12 rfl rfl ?_
  refine z_if_ne 20 d_X11_partOf_13 (by decide) (fun hc1 => ?_) (fun hc1 => absurd hc1 (by omega))
  refine z_iload_n d_X11_partOf_20 rfl rfl ?_
  suffices kJ21 : qEx M_X11_partOf 29 [qI up, qI low, qI 0, qI (((Nat.gcd up.natAbs low.natAbs) : Nat) : Int), qU] [qI (qif (low ≥ 0) 1 (-1))] (xput h F G) r hr by
    refine z_if_ge 28 d_X11_partOf_21 (by decide) (fun hc2 => ?_) (fun hc2 => ?_)
    · refine z_iconst d_X11_partOf_28 (by decide) ?_
      exact z_eq rfl (qc (qi (qif_t hc2).symm) rfl) rfl kJ21
    · refine z_iconst d_X11_partOf_24 (by decide) ?_
      refine z_goto 29 d_X11_partOf_25 (by decide) ?_
      exact z_eq rfl (qc (qi (qif_f hc2).symm) rfl) rfl kJ21
  refine z_istore (ls' := [qI up, qI low, qI 0, qI (((Nat.gcd up.natAbs low.natAbs) : Nat) : Int), qI (qif (low ≥ 0) 1 (-1))]) d_X11_partOf_29 (by decide) rfl ?_
  refine z_iload d_X11_partOf_31 rfl ?_
  refine z_iload_n d_X11_partOf_33 rfl rfl ?_
  refine z_if_eq 41 d_X11_partOf_34 (by decide) (fun hc3 => ?_) (fun hc3 => absurd (by decide) hc3)
  refine z_iload_n d_X11_partOf_41 rfl rfl ?_
  refine z_imul d_X11_partOf_42 (by simp only [qif_eq]; split <;> omega) ?_
  refine z_iload_n d_X11_partOf_43 rfl rfl ?_
  refine z_idiv d_X11_partOf_44 (by omega) ?_
  exact z_iret d_X11_partOf_45 rfl (qer er (by unfold lowR; simp only [qif_eq]; first | rfl | (congr 2; split <;> omega) | skip)) eh
theorem tw_0 {T : Nat → Int} {n : Nat} {d : Int} : cnt (fun k => tw T n d 0 k = 7) n = 0 := cnt_0.mpr (fun k _ => by
  have := qb_bd ((k : Int) = 0)
  show qb ((k : Int) = 0) ≠ 7
  omega)
theorem tw_end {T : Nat → Int} {n t : Nat} {d : Int} (hn : 1 ≤ n) (ht : t ≤ 3 * n + 20) (hp : ∀ k, k + 1 < t → ¬ cnt (fun j => tw T n d (k + 1) j = 7) n > 0) (hx : t = 3 * n + 20 ∨ cnt (fun j => tw T n d t j = 7) n > 0) : cnt (fun j => tw T n d t j = 7) n = (n : Int) ↔ twG T n d := by
  by_cases hl : cnt (fun j => tw T n d t j = 7) n > 0
  · obtain ⟨i, rfl⟩ : ∃ i, t = i + 1 := by
      rcases Nat.eq_zero_or_pos t with z | z
      · subst z; rw [tw_0] at hl; exact absurd hl (by decide)
      · exact ⟨t - 1, by omega⟩
    have hJ : twJ T n d = (i : Int) := fst_at (by omega) (fun k hk => hp k (by omega)) hl
    unfold twG twN
    rw [hJ, if_neg (by omega), Int.toNat_natCast]
    exact ⟨fun z => ⟨by omega, z⟩, fun z => z.2⟩
  · have ht2 := hx.resolve_right hl
    have hJ : twJ T n d = -1 := fst_none (fun k hk => by
      by_cases z : k + 1 < t
      · exact hp k z
      · rw [show k + 1 = t by omega]; exact hl)
    have := cnt_bd (fun j => tw T n d t j = 7) n
    exact ⟨fun z => absurd z (by omega), fun z => absurd hJ z.1⟩
set_option maxRecDepth 20000 in
set_option maxHeartbeats 4000000 in
theorem c_goodTwo {h : qH} {F G : Nat → Nat → Int} {n : Nat} (d : Int) {T : Nat → Int} (hn : 1 ≤ n ∧ n ≤ 32) (hd : 0 ≤ d) (hT : ∀ c, c < 648 → G 6 c = T c) (hB : ∀ c, c < 648 → 0 ≤ T c ∧ T c ≤ 7) : ∃ F' G', (xfr 173 176 F G F' G') ∧ qEx M_X11_isGoodWithTwo 0 [qR 2, qI (n : Int), qI d, qU, qU] [] (xput h F G) (some (qI (qb (twG T n d)))) (xput h F' G') := by
  refine x_in (fun Q hQ => ?_)
  refine qy (fun _ _ k9 => z_aload_n d_X11_isGoodWithTwo_0 rfl rfl k9) ?_
  refine qy (fun _ _ k9 => z_getf (v := qR 172) d_X11_isGoodWithTwo_1 fl_X11_40 (xput_ob (c := (F 2)) xi_2 rfl (xsh_11 xo_2)) rfl k9) ?_
  refine qy (fun _ _ k9 => z_getf (v := qR 173) d_X11_isGoodWithTwo_4 fl_X11_293 (xput_ob (c := (F 172)) xi_172 rfl (xsh_9 xo_172)) rfl k9) ?_
  refine qy (fun _ _ k9 => z_astore_n (ls' := [qR 2, qI (n : Int), qI d, qR 173, qU]) d_X11_isGoodWithTwo_7 rfl (by decide) rfl k9) ?_
  refine qy (fun _ _ k9 => z_aload_n d_X11_isGoodWithTwo_8 rfl rfl k9) ?_
  refine qy (fun _ _ k9 => z_iload_n d_X11_isGoodWithTwo_9 rfl rfl k9) ?_
  refine qy (fun _ _ k9 => z_iconst d_X11_isGoodWithTwo_10 (by decide) k9) ?_
  refine qy (fun _ _ k9 => z_iconst d_X11_isGoodWithTwo_11 (by decide) k9) ?_
  obtain ⟨F1, G1, ⟨hv1, hw1, hu1, hg1⟩, hx1⟩ := c_rnStart (h := h) (F := F) (G := G) (u := 173) n 0 0 (by decide) xo_173 (by omega) (by decide) (by decide)
  refine qy (fun _ _ k9 => z_cv0 (M1 := M_X7_start) d_X11_isGoodWithTwo_12 lv_X11_297 k_X7_start [qI (n : Int), qI 0, qI 0] rfl rfl (xput_ob (c := (F 173)) xi_173 rfl (xsh_7 xo_173)) ⟨_, _, rfl⟩ (Nat.le_of_ble_eq_true rfl) (by decide) (by decide) (Nat.le_of_ble_eq_true rfl) hx1 k9) ?_
  refine qy (fun _ _ k9 => z_iconst d_X11_isGoodWithTwo_15 (by decide) k9) ?_
  refine qy (fun _ _ k9 => z_istore (ls' := [qR 2, qI (n : Int), qI d, qR 173, qI 0]) d_X11_isGoodWithTwo_16 (by decide) rfl k9) ?_
  refine qy (fun _ _ k9 => z_eq (qc rfl (qc rfl (qc rfl (qc rfl (qc (qi (rfl)) rfl))))) rfl rfl k9) (y_wh4 (fun (t : Nat) (c : Int) (Fa : Nat → Nat → Int) (Ga : Nat → Nat → Int) => 3 * n + 20 - t) (fun (t : Nat) (c : Int) (Fa : Nat → Nat → Int) (Ga : Nat → Nat → Int) => [qR 2, qI (n : Int), qI d, qR 173, qI (t : Int)]) (fun (t : Nat) (c : Int) (Fa : Nat → Nat → Int) (Ga : Nat → Nat → Int) => (xput h Fa Ga)) (fun (t : Nat) (c : Int) (Fa : Nat → Nat → Int) (Ga : Nat → Nat → Int) => t ≤ 3 * n + 20 ∧ xfr 173 176 F G Fa Ga ∧ rnS Fa Ga 173 n 0 0 (-1) t (cnt (fun k => tw T n d t k = 7) n) c (tw T n d t) ∧ ∀ k, k + 1 < t → ¬ cnt (fun j => tw T n d (k + 1) j = 7) n > 0) 0 0 F1 G1 (⟨by omega, hv1, rnS_M hw1 (fun _ _ => rfl) tw_0.symm rfl, fun k hk => absurd hk (by omega)⟩) (fun t c Fa Ga hp kk => ?_))
  obtain ⟨ht, hfr, hS1, hp⟩ := hp
  show qEy M_X11_isGoodWithTwo 18 [qR 2, qI (n : Int), qI d, qR 173, qI (t : Int)] [] (xput h Fa Ga) Q
  have hT1 : ∀ c, c < 648 → Ga 6 c = T c := fun c hc => by rw [xfr_G hfr (by decide)]; exact hT c hc
  have f7 : Fa 173 7 = 3 * (n : Int) + 20 := hS1.2.1.1
  have f9 : Fa 173 9 = (cnt (fun k => tw T n d t k = 7) n) := hS1.2.1.2.2.1
  have c0 := cnt_bd (fun k => tw T n d t k = 7) n
  refine qy (fun _ _ k9 => z_iload d_X11_isGoodWithTwo_18 rfl k9) ?_
  refine qy (fun _ _ k9 => z_aload_n d_X11_isGoodWithTwo_20 rfl rfl k9) ?_
  refine qy (fun _ _ k9 => z_getf (v := qI ((Fa 173) 7)) d_X11_isGoodWithTwo_21 fl_X11_336 (xput_ob (c := (Fa 173)) xi_173 rfl (xsh_7 xo_173)) rfl k9) ?_
  refine qy2 (fun _ _ => z_icmp_ge 69 d_X11_isGoodWithTwo_24 (by decide)) (fun q24 => ?_) (fun q24 => ?_)
  · refine qy (fun _ _ k9 => z_aload_n d_X11_isGoodWithTwo_69 rfl rfl k9) ?_
    refine qy (fun _ _ k9 => z_cv (M1 := M_X7_isGood) d_X11_isGoodWithTwo_70 lv_X11_342 k_X7_isGood [] rfl rfl (xput_ob (c := (Fa 173)) xi_173 rfl (xsh_7 xo_173)) ⟨_, _, rfl⟩ (Nat.le_of_ble_eq_true rfl) (by decide) (by decide) (Nat.le_of_ble_eq_true rfl) (c_rnGood (by decide) xo_173 hS1) k9) ?_
    exact y_ret (hQ Fa Ga hfr) (z_zret d_X11_isGoodWithTwo_73 rfl (by first | exact qb_01 _ | decide | omega) (qsi (qb_congr (tw_end (by omega) ht hp (Or.inl (by omega))).symm)) rfl)
  · refine qy (fun _ _ k9 => z_aload_n d_X11_isGoodWithTwo_27 rfl rfl k9) ?_
    refine qy (fun _ _ k9 => z_getf (v := qI ((Fa 173) 9)) d_X11_isGoodWithTwo_28 fl_X11_320 (xput_ob (c := (Fa 173)) xi_173 rfl (xsh_7 xo_173)) rfl k9) ?_
    refine qy2 (fun _ _ => z_if_ne 69 d_X11_isGoodWithTwo_31 (by decide)) (fun q31 => ?_) (fun q31 => ?_)
    · refine qy (fun _ _ k9 => z_aload_n d_X11_isGoodWithTwo_69 rfl rfl k9) ?_
      refine qy (fun _ _ k9 => z_cv (M1 := M_X7_isGood) d_X11_isGoodWithTwo_70 lv_X11_342 k_X7_isGood [] rfl rfl (xput_ob (c := (Fa 173)) xi_173 rfl (xsh_7 xo_173)) ⟨_, _, rfl⟩ (Nat.le_of_ble_eq_true rfl) (by decide) (by decide) (Nat.le_of_ble_eq_true rfl) (c_rnGood (by decide) xo_173 hS1) k9) ?_
      exact y_ret (hQ Fa Ga hfr) (z_zret d_X11_isGoodWithTwo_73 rfl (by first | exact qb_01 _ | decide | omega) (qsi (qb_congr (tw_end (by omega) ht hp (Or.inr (by omega))).symm)) rfl)
    · refine qy (fun _ _ k9 => z_iload d_X11_isGoodWithTwo_34 rfl k9) ?_
      refine qy (fun _ _ k9 => z_iload_n d_X11_isGoodWithTwo_36 rfl rfl k9) ?_
      refine qy2 (fun _ _ => z_icmp_ne 49 d_X11_isGoodWithTwo_37 (by decide)) (fun q37 => ?_) (fun q37 => ?_)
      · refine qy (fun _ _ k9 => z_aload_n d_X11_isGoodWithTwo_49 rfl rfl k9) ?_
        refine qy (fun _ _ k9 => z_aload_n d_X11_isGoodWithTwo_50 rfl rfl k9) ?_
        refine qy (fun _ _ k9 => z_getf (v := qR 3) d_X11_isGoodWithTwo_51 fl_X11_12 (xput_ob (c := (Fa 2)) xi_2 rfl (xsh_11 xo_2)) rfl k9) ?_
        refine qy (fun _ _ k9 => z_getf (v := qR 4) d_X11_isGoodWithTwo_54 fl_X11_144 (xput_ob (c := (Fa 3)) xi_3 rfl (xsh_8 xo_3)) rfl k9) ?_
        refine qy (fun _ _ k9 => z_getf (v := qR 6) d_X11_isGoodWithTwo_57 fl_X11_243 (xput_ob (c := (Fa 4)) xi_4 rfl (xsh_0 xo_4)) rfl k9) ?_
        obtain ⟨F2, G2, ⟨hv2, hw2⟩, hx2⟩ := c_rnBr (h := h) (F := Fa) (G := Ga) (u := 173) (d := 6) (M := twM n d t (tw T n d t)) (T := T) (by decide) xo_173 xa_6 (by decide) (by omega) (by decide) (by omega) (fun c hc => hT1 c hc) (rnS_M hS1 (fun k hk => (by unfold twM; rw [qif_f (by omega)])) rfl rfl) (twM_bd (tw_bd hB t))
        refine qy (fun _ _ k9 => z_cv0 (M1 := M_X7_breathe) d_X11_isGoodWithTwo_60 lv_X11_340 k_X7_breathe [qR 6] rfl rfl (xput_ob (c := (Fa 173)) xi_173 rfl (xsh_7 xo_173)) ⟨_, _, rfl⟩ (Nat.le_of_ble_eq_true rfl) (by decide) (by decide) (Nat.le_of_ble_eq_true rfl) hx2 k9) ?_
        refine qy (fun _ _ k9 => z_iinc (ls' := [qR 2, qI (n : Int), qI d, qR 173, qI ((t : Int) + 1)]) d_X11_isGoodWithTwo_63 rfl (by decide) (by omega) rfl k9) ?_
        refine qy (fun _ _ k9 => z_goto 18 d_X11_isGoodWithTwo_66 (by decide) k9) ?_
        exact qy (fun _ _ k9 => z_eq (qc rfl (qc rfl (qc rfl (qc rfl (qc (qi (by omega)) rfl))))) rfl rfl k9) (kk (t + 1) (cnt (fun k => stp T n 0 (-1) (twM n d t (tw T n d t)) k ≠ twM n d t (tw T n d t) k) n) F2 G2 (⟨by omega, (xfr_tr hfr hv2), hw2, fun k hk => (by by_cases z : k + 1 < t; exact hp k z; rw [show k + 1 = t by omega]; omega)⟩) (by omega))
      · refine qy (fun _ _ k9 => z_aload_n d_X11_isGoodWithTwo_40 rfl rfl k9) ?_
        refine qy (fun _ _ k9 => z_getf (v := qR 174) d_X11_isGoodWithTwo_41 fl_X11_339 (xput_ob (c := (Fa 173)) xi_173 rfl (xsh_7 xo_173)) rfl k9) ?_
        refine qy (fun _ _ k9 => z_iload_n d_X11_isGoodWithTwo_44 rfl rfl k9) ?_
        refine qy (fun _ _ k9 => z_iconst d_X11_isGoodWithTwo_45 (by decide) k9) ?_
        refine qy (fun _ _ k9 => z_isub d_X11_isGoodWithTwo_46 (by omega) k9) ?_
        refine qy (fun _ _ k9 => z_iconst d_X11_isGoodWithTwo_47 (by decide) k9) ?_
        refine qy (fun _ _ k9 => z_ist (n - 1) d_X11_isGoodWithTwo_48 (xput_ar (g := (Ga 174)) xa_174 rfl) (by omega) (by omega) (by omega) k9) ?_
        refine qy (fun _ _ k9 => z_eq rfl rfl (xput_sa xa_174) k9) ?_
        refine qy (fun _ _ k9 => z_aload_n d_X11_isGoodWithTwo_49 rfl rfl k9) ?_
        refine qy (fun _ _ k9 => z_aload_n d_X11_isGoodWithTwo_50 rfl rfl k9) ?_
        refine qy (fun _ _ k9 => z_getf (v := qR 3) d_X11_isGoodWithTwo_51 fl_X11_12 (xput_ob (c := (Fa 2)) xi_2 rfl (xsh_11 xo_2)) rfl k9) ?_
        refine qy (fun _ _ k9 => z_getf (v := qR 4) d_X11_isGoodWithTwo_54 fl_X11_144 (xput_ob (c := (Fa 3)) xi_3 rfl (xsh_8 xo_3)) rfl k9) ?_
        refine qy (fun _ _ k9 => z_getf (v := qR 6) d_X11_isGoodWithTwo_57 fl_X11_243 (xput_ob (c := (Fa 4)) xi_4 rfl (xsh_0 xo_4)) rfl k9) ?_
        obtain ⟨F3, G3, ⟨hv3, hw3⟩, hx3⟩ := c_rnBr (h := h) (F := Fa) (G := (gup Ga 174 (qup (Ga 174) (n - 1) 1))) (u := 173) (d := 6) (M := twM n d t (tw T n d t)) (T := T) (by decide) xo_173 xa_6 (by decide) (by omega) (by decide) (by omega) (fun c hc => (by rw [gup_ne (by decide)]; exact hT1 c hc)) (⟨hS1.1, hS1.2.1, fun k hk => (by rw [gup_eq]; unfold twM; rw [qif_t (by omega)]; by_cases e : k = n - 1; (rw [e, qup_eq, qup_eq]); (rw [qup_ne e, qup_ne e]; exact hS1.2.2 k hk))⟩) (twM_bd (tw_bd hB t))
        refine qy (fun _ _ k9 => z_cv0 (M1 := M_X7_breathe) d_X11_isGoodWithTwo_60 lv_X11_340 k_X7_breathe [qR 6] rfl rfl (xput_ob (c := (Fa 173)) xi_173 rfl (xsh_7 xo_173)) ⟨_, _, rfl⟩ (Nat.le_of_ble_eq_true rfl) (by decide) (by decide) (Nat.le_of_ble_eq_true rfl) hx3 k9) ?_
        refine qy (fun _ _ k9 => z_iinc (ls' := [qR 2, qI (n : Int), qI d, qR 173, qI ((t : Int) + 1)]) d_X11_isGoodWithTwo_63 rfl (by decide) (by omega) rfl k9) ?_
        refine qy (fun _ _ k9 => z_goto 18 d_X11_isGoodWithTwo_66 (by decide) k9) ?_
        exact qy (fun _ _ k9 => z_eq (qc rfl (qc rfl (qc rfl (qc rfl (qc (qi (by omega)) rfl))))) rfl rfl k9) (kk (t + 1) (cnt (fun k => stp T n 0 (-1) (twM n d t (tw T n d t)) k ≠ twM n d t (tw T n d t) k) n) F3 G3 (⟨by omega, (xfr_tr hfr (xfr_tr (xfr_g (xfr_rf _ _ _ _) (by decide) (by decide)) hv3)), hw3, fun k hk => (by by_cases z : k + 1 < t; exact hp k z; rw [show k + 1 = t by omega]; omega)⟩) (by omega))
set_option maxRecDepth 20000 in
set_option maxHeartbeats 4000000 in
theorem c_firesOf {h : qH} {F G : Nat → Nat → Int} {n b rg : Nat} {T : Nat → Int} (hn : 1 ≤ n ∧ n ≤ 32) (hb : b < 32) (hg : rg ≤ 1) (hT : ∀ c, c < 648 → G 6 c = T c) (hB : ∀ c, c < 648 → 0 ≤ T c ∧ T c ≤ 7) : ∃ F' G', (xfr 173 176 F G F' G' ∧ rn73 F' G' T n rg (b : Int)) ∧ qEx M_X11_firesOf 0 [qR 2, qI (n : Int), qI (b : Int), qI (rg : Int), qU] [] (xput h F G) (some (qR 173)) (xput h F' G') := by
  refine x_in (fun Q hQ => ?_)
  refine qy (fun _ _ k9 => z_aload_n d_X11_firesOf_0 rfl rfl k9) ?_
  refine qy (fun _ _ k9 => z_getf (v := qR 172) d_X11_firesOf_1 fl_X11_40 (xput_ob (c := (F 2)) xi_2 rfl (xsh_11 xo_2)) rfl k9) ?_
  refine qy (fun _ _ k9 => z_getf (v := qR 173) d_X11_firesOf_4 fl_X11_293 (xput_ob (c := (F 172)) xi_172 rfl (xsh_9 xo_172)) rfl k9) ?_
  refine qy (fun _ _ k9 => z_astore (ls' := [qR 2, qI (n : Int), qI (b : Int), qI (rg : Int), qR 173]) d_X11_firesOf_7 (by decide) rfl k9) ?_
  refine qy (fun _ _ k9 => z_aload d_X11_firesOf_9 rfl k9) ?_
  refine qy (fun _ _ k9 => z_iload_n d_X11_firesOf_11 rfl rfl k9) ?_
  refine qy (fun _ _ k9 => z_iload_n d_X11_firesOf_12 rfl rfl k9) ?_
  refine qy (fun _ _ k9 => z_iload_n d_X11_firesOf_13 rfl rfl k9) ?_
  obtain ⟨F1, G1, ⟨hv1, hw1, hu1, hg1⟩, hx1⟩ := c_rnStart (h := h) (F := F) (G := G) (u := 173) n b rg (by decide) xo_173 (by omega) (by omega) (by omega)
  refine qy (fun _ _ k9 => z_cv0 (M1 := M_X7_start) d_X11_firesOf_14 lv_X11_297 k_X7_start [qI (n : Int), qI (b : Int), qI (rg : Int)] rfl rfl (xput_ob (c := (F 173)) xi_173 rfl (xsh_7 xo_173)) ⟨_, _, rfl⟩ (Nat.le_of_ble_eq_true rfl) (by decide) (by decide) (Nat.le_of_ble_eq_true rfl) hx1 k9) ?_
  refine qy (fun _ _ k9 => z_aload d_X11_firesOf_17 rfl k9) ?_
  refine qy (fun _ _ k9 => z_aload_n d_X11_firesOf_19 rfl rfl k9) ?_
  refine qy (fun _ _ k9 => z_getf (v := qR 3) d_X11_firesOf_20 fl_X11_12 (xput_ob (c := (F1 2)) xi_2 rfl (xsh_11 xo_2)) rfl k9) ?_
  refine qy (fun _ _ k9 => z_getf (v := qR 4) d_X11_firesOf_23 fl_X11_144 (xput_ob (c := (F1 3)) xi_3 rfl (xsh_8 xo_3)) rfl k9) ?_
  refine qy (fun _ _ k9 => z_getf (v := qR 6) d_X11_firesOf_26 fl_X11_243 (xput_ob (c := (F1 4)) xi_4 rfl (xsh_0 xo_4)) rfl k9) ?_
  obtain ⟨F2, G2, ⟨tt2, ch2, hv2, hw2, he2⟩, hx2⟩ := c_rnFin (h := h) (F := F1) (G := G1) (u := 173) (d := 6) (n := n) (rg := rg) (b := (b : Int)) (T := T) (by decide) xo_173 xa_6 (by decide) hn hg (fun c hc => by rw [xfr_G hv1 (by decide)]; exact hT c hc) hB hw1
  refine qy (fun _ _ k9 => z_cv0 (M1 := M_X7_finish) d_X11_firesOf_29 lv_X11_301 k_X7_finish [qR 6] rfl rfl (xput_ob (c := (F1 173)) xi_173 rfl (xsh_7 xo_173)) ⟨_, _, rfl⟩ (Nat.le_of_ble_eq_true rfl) (by decide) (by decide) (Nat.le_of_ble_eq_true rfl) hx2 k9) ?_
  refine qy (fun _ _ k9 => z_aload d_X11_firesOf_32 rfl k9) ?_
  exact y_ret (hQ F2 G2 (⟨xfr_tr hv1 hv2, tt2, ch2, hw2, he2⟩)) (z_aret d_X11_firesOf_34 rfl rfl rfl)
