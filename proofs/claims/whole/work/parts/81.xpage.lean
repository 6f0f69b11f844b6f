/-! ===== CONTRACTS: numberOfTrailingZeros; a page ===== -/
theorem x_in {M : qM} {pc : Nat} {ls st : List qA} {h h' : qH} {ρ : Option qA} {P : (Nat → Nat → Int) → (Nat → Nat → Int) → Prop} (k : ∀ Q : Option qA → qH → Prop, (∀ F' G', P F' G' → Q ρ (xput h' F' G')) → qEy M pc ls st h Q) : ∃ F' G', P F' G' ∧ qEx M pc ls st h ρ (xput h' F' G') := by
  obtain ⟨r, hr, ⟨f', g', hp, e1, e2⟩, hx⟩ := k (fun r hr => ∃ f' g', P f' g' ∧ r = ρ ∧ hr = xput h' f' g') (fun f' g' hp => ⟨f', g', hp, rfl, rfl⟩)
  subst e1; subst e2
  exact ⟨f', g', hp, hx⟩
def nz1 (p : Int × Int) (c s : Int) : Int × Int := if p.1 ≤ c then p else (qUshr p.1 s, p.2 + s)
theorem nz1_1 {y n c s : Int} : qif (y ≤ c) y (qUshr y s) = (nz1 (y, n) c s).1 := by
  unfold nz1
  by_cases h : y ≤ c
  · rw [qif_t h, if_pos h]
  · rw [qif_f h, if_neg h]
theorem nz1_2 {y n m c s : Int} (e : m = n + s) : qif (y ≤ c) n m = (nz1 (y, n) c s).2 := by
  subst e
  unfold nz1
  by_cases h : y ≤ c
  · rw [qif_t h, if_pos h]
  · rw [qif_f h, if_neg h]
theorem nz1_bd {p : Int × Int} {c s B : Int} (h : 0 ≤ p.2 ∧ p.2 ≤ B) (hs : 0 ≤ s) : 0 ≤ (nz1 p c s).2 ∧ (nz1 p c s).2 ≤ B + s := by
  unfold nz1
  split
  · omega
  · show 0 ≤ p.2 + s ∧ p.2 + s ≤ B + s
    omega
def nzP (y : Int) : Int × Int := nz1 (nz1 (nz1 (nz1 (y, 1) 65536 16) 256 8) 16 4) 4 2
theorem nz_all : ∀ k : Fin 24, 1 ≤ k.1 → (nzP (((2 ^ k.1 : Nat) : Int) - 1)).2 + qUshr (nzP (((2 ^ k.1 : Nat) : Int) - 1)).1 1 = (k.1 : Int) := by decide +kernel
theorem nz_k0 {y : Int} {k : Nat} (h : y = ((2 ^ k : Nat) : Int) - 1) (hy : ¬ y > 0) : k = 0 := by
  rcases Nat.eq_zero_or_pos k with z | z
  · exact z
  · have : 2 ^ 1 ≤ 2 ^ k := Nat.pow_le_pow_right (by decide) z
    omega
theorem nz_k1 {y : Int} {k : Nat} (h : y = ((2 ^ k : Nat) : Int) - 1) (hy : y > 0) : 1 ≤ k := by
  rcases Nat.eq_zero_or_pos k with z | z
  · subst z; rw [h] at hy; exact absurd hy (by decide)
  · exact z
/-- what is left of x below its least bit -/
theorem low_bits {x : Int} {k : Nat} (h0 : 0 < x) (h1 : x < 2147483648) (hk : k < 31) (ht : tb x k = true) (hl : ∀ j, j < k → tb x j = false) : qAnd (qXor x (-1)) (x - 1) = ((2 ^ k : Nat) : Int) - 1 := by
  have hx : R32 x := ⟨by omega, by omega⟩
  have hp : 0 < 2 ^ k := Nat.two_pow_pos k
  have hp2 : 2 ^ k < 2147483648 := Nat.lt_of_lt_of_le (Nat.pow_lt_pow_right (by decide) hk) (by decide)
  have hm : x.toNat % 2 ^ k = 0 := by
    apply Nat.eq_of_testBit_eq
    intro j
    rw [Nat.testBit_mod_two_pow, Nat.zero_testBit]
    by_cases hj : j < k
    · have := hl j hj
      rw [tb_nat (by omega) j (by omega)] at this
      simp [hj, this]
    · simp [hj]
  have hd : x.toNat = 2 ^ k * (x.toNat / 2 ^ k) := by have := Nat.div_add_mod x.toNat (2 ^ k); omega
  have ho : (x.toNat / 2 ^ k).testBit 0 = true := by
    rw [Nat.testBit_div_two_pow, Nat.zero_add, ← tb_nat (by omega) k (by omega)]
    exact ht
  obtain ⟨q, hq⟩ : ∃ q, x.toNat / 2 ^ k = 2 * q + 1 := by
    refine ⟨x.toNat / 2 ^ k / 2, ?_⟩
    rw [Nat.testBit_zero, decide_eq_true_eq] at ho
    omega
  have hx1 : x.toNat = 2 ^ k * (2 * q + 1) + 0 := by rw [hd, hq]; rfl
  have hx2 : (x - 1).toNat = 2 ^ k * (2 * q) + (2 ^ k - 1) := by
    have : x.toNat = 2 ^ k * (2 * q) + 2 ^ k := by rw [hx1, Nat.mul_add, Nat.mul_one, Nat.add_zero]
    omega
  refine tb_ext (qAnd_R _ _) ⟨by omega, by omega⟩ (fun j hj => ?_)
  rw [tb_and, tb_not x hj, tb_nat (by omega) j hj, tb_nat (x := x - 1) (by omega) j hj, tb_nat (x := ((2 ^ k : Nat) : Int) - 1) (by omega) j hj, hx1, hx2, show (((2 ^ k : Nat) : Int) - 1).toNat = 2 ^ k - 1 by omega, Nat.testBit_two_pow_sub_one, Nat.testBit_two_pow_mul_add _ hp, Nat.testBit_two_pow_mul_add _ (show 2 ^ k - 1 < 2 ^ k by omega), Nat.testBit_two_pow_sub_one]
  by_cases c : j < k
  · simp [c]
  · rw [if_neg c, if_neg c]
    by_cases d : j = k
    · subst d
      simp
    · obtain ⟨t, ht⟩ : ∃ t, j - k = t + 1 := ⟨j - k - 1, by omega⟩
      rw [ht, Nat.testBit_succ, Nat.testBit_succ, show (2 * q + 1) / 2 = q by omega, show 2 * q / 2 = q by omega]
      simp [c]
set_option maxRecDepth 20000 in
set_option maxHeartbeats 4000000 in
theorem c_ntz {h : qH} (x : Int) (k : Nat) (hx0 : 0 < x) (hx1 : x < 2147483648) (hk : k < 24) (ht : tb x k = true) (hl : ∀ j, j < k → tb x j = false) : qEx M_J6_numberOfTrailingZeros_0f7a4 0 [qI x, qU] [] h (some (qI (k : Int))) h := by
  refine q_gen (fun r hr er eh => ?_)
  refine z_iload_n d_J6_numberOfTrailingZeros_0f7a4_0 rfl rfl ?_
  refine z_iconst d_J6_numberOfTrailingZeros_0f7a4_1 (by decide) ?_
  refine z_ixor d_J6_numberOfTrailingZeros_0f7a4_2 ?_
  refine z_iload_n d_J6_numberOfTrailingZeros_0f7a4_3 rfl rfl ?_
  refine z_iconst d_J6_numberOfTrailingZeros_0f7a4_4 (by decide) ?_
  refine z_isub d_J6_numberOfTrailingZeros_0f7a4_5 (by omega) ?_
  refine z_iand d_J6_numberOfTrailingZeros_0f7a4_6 ?_
  refine z_istore_n (ls' := [qI (qAnd (qXor x (-1)) (x - 1)), qU]) d_J6_numberOfTrailingZeros_0f7a4_7 rfl (by decide) rfl ?_
  obtain ⟨y, hy⟩ : ∃ y, y = (qAnd (qXor x (-1)) (x - 1)) := ⟨_, rfl⟩
  rw [← hy]
  have hyk : y = ((2 ^ k : Nat) : Int) - 1 := hy.trans (low_bits hx0 hx1 (by omega) ht hl)
  refine z_iload_n d_J6_numberOfTrailingZeros_0f7a4_8 rfl rfl ?_
  refine z_if_gt 17 d_J6_numberOfTrailingZeros_0f7a4_9 (by decide) (fun hc1 => ?_) (fun hc1 => ?_)
  · refine z_iconst d_J6_numberOfTrailingZeros_0f7a4_17 (by decide) ?_
    refine z_istore_n (ls' := [qI y, qI 1]) d_J6_numberOfTrailingZeros_0f7a4_18 rfl (by decide) rfl ?_
    refine z_iload_n d_J6_numberOfTrailingZeros_0f7a4_19 rfl rfl ?_
    refine z_ldcw (n := 65536) d_J6_numberOfTrailingZeros_0f7a4_20 ct_J6_264 (by decide) (by decide) ?_
    suffices kJ23 : qEx M_J6_numberOfTrailingZeros_0f7a4 34 [qI (qif (y ≤ 65536) y (qUshr y 16)), qI (qif (y ≤ 65536) 1 17)] [] h r hr by
      refine z_icmp_le 34 d_J6_numberOfTrailingZeros_0f7a4_23 (by decide) (fun hc2 => ?_) (fun hc2 => ?_)
      · exact z_eq (qc (qi (qif_t hc2).symm) (qc (qi (qif_t hc2).symm) rfl)) rfl rfl kJ23
      · refine z_iinc (ls' := [qI y, qI 17]) d_J6_numberOfTrailingZeros_0f7a4_26 rfl (by decide) (by omega) rfl ?_
        refine z_iload_n d_J6_numberOfTrailingZeros_0f7a4_29 rfl rfl ?_
        refine z_bipush d_J6_numberOfTrailingZeros_0f7a4_30 (by decide) ?_
        refine z_iushr d_J6_numberOfTrailingZeros_0f7a4_32 ?_
        refine z_istore_n (ls' := [qI (qUshr y 16), qI 17]) d_J6_numberOfTrailingZeros_0f7a4_33 rfl (by decide) rfl ?_
        exact z_eq (qc (qi (qif_f hc2).symm) (qc (qi (qif_f hc2).symm) rfl)) rfl rfl kJ23
    have hb1 : 0 ≤ (nz1 (y, 1) 65536 16).2 ∧ (nz1 (y, 1) 65536 16).2 ≤ 17 := by have := nz1_bd (p := (y, 1)) (c := 65536) (s := 16) (B := 1) (show 0 ≤ (1 : Int) ∧ (1 : Int) ≤ 1 by decide) (by decide); omega
    refine z_eq (qc (qi (show (qif (y ≤ 65536) y (qUshr y 16)) = ((nz1 (y, 1) 65536 16).1) from nz1_1)) rfl) rfl rfl ?_
    refine z_eq (qc rfl (qc (qi (show (qif (y ≤ 65536) 1 17) = ((nz1 (y, 1) 65536 16).2) from nz1_2 rfl)) rfl)) rfl rfl ?_
    refine z_iload_n d_J6_numberOfTrailingZeros_0f7a4_34 rfl rfl ?_
    refine z_sipush d_J6_numberOfTrailingZeros_0f7a4_35 (by decide) ?_
    suffices kJ38 : qEx M_J6_numberOfTrailingZeros_0f7a4 49 [qI (qif (((nz1 (y, 1) 65536 16).1) ≤ 256) ((nz1 (y, 1) 65536 16).1) (qUshr ((nz1 (y, 1) 65536 16).1) 8)), qI (qif (((nz1 (y, 1) 65536 16).1) ≤ 256) ((nz1 (y, 1) 65536 16).2) (((nz1 (y, 1) 65536 16).2) + 8))] [] h r hr by
      refine z_icmp_le 49 d_J6_numberOfTrailingZeros_0f7a4_38 (by decide) (fun hc3 => ?_) (fun hc3 => ?_)
      · exact z_eq (qc (qi (qif_t hc3).symm) (qc (qi (qif_t hc3).symm) rfl)) rfl rfl kJ38
      · refine z_iinc (ls' := [qI ((nz1 (y, 1) 65536 16).1), qI (((nz1 (y, 1) 65536 16).2) + 8)]) d_J6_numberOfTrailingZeros_0f7a4_41 rfl (by decide) (by omega) rfl ?_
        refine z_iload_n d_J6_numberOfTrailingZeros_0f7a4_44 rfl rfl ?_
        refine z_bipush d_J6_numberOfTrailingZeros_0f7a4_45 (by decide) ?_
        refine z_iushr d_J6_numberOfTrailingZeros_0f7a4_47 ?_
        refine z_istore_n (ls' := [qI (qUshr ((nz1 (y, 1) 65536 16).1) 8), qI (((nz1 (y, 1) 65536 16).2) + 8)]) d_J6_numberOfTrailingZeros_0f7a4_48 rfl (by decide) rfl ?_
        exact z_eq (qc (qi (qif_f hc3).symm) (qc (qi (qif_f hc3).symm) rfl)) rfl rfl kJ38
    have hb2 : 0 ≤ (nz1 (nz1 (y, 1) 65536 16) 256 8).2 ∧ (nz1 (nz1 (y, 1) 65536 16) 256 8).2 ≤ 25 := by have := nz1_bd (p := (nz1 (y, 1) 65536 16)) (c := 256) (s := 8) (B := 17) hb1 (by decide); omega
    refine z_eq (qc (qi (show (qif (((nz1 (y, 1) 65536 16).1) ≤ 256) ((nz1 (y, 1) 65536 16).1) (qUshr ((nz1 (y, 1) 65536 16).1) 8)) = ((nz1 (nz1 (y, 1) 65536 16) 256 8).1) from nz1_1)) rfl) rfl rfl ?_
    refine z_eq (qc rfl (qc (qi (show (qif (((nz1 (y, 1) 65536 16).1) ≤ 256) ((nz1 (y, 1) 65536 16).2) (((nz1 (y, 1) 65536 16).2) + 8)) = ((nz1 (nz1 (y, 1) 65536 16) 256 8).2) from nz1_2 rfl)) rfl)) rfl rfl ?_
    refine z_iload_n d_J6_numberOfTrailingZeros_0f7a4_49 rfl rfl ?_
    refine z_bipush d_J6_numberOfTrailingZeros_0f7a4_50 (by decide) ?_
    suffices kJ52 : qEx M_J6_numberOfTrailingZeros_0f7a4 62 [qI (qif (((nz1 (nz1 (y, 1) 65536 16) 256 8).1) ≤ 16) ((nz1 (nz1 (y, 1) 65536 16) 256 8).1) (qUshr ((nz1 (nz1 (y, 1) 65536 16) 256 8).1) 4)), qI (qif (((nz1 (nz1 (y, 1) 65536 16) 256 8).1) ≤ 16) ((nz1 (nz1 (y, 1) 65536 16) 256 8).2) (((nz1 (nz1 (y, 1) 65536 16) 256 8).2) + 4))] [] h r hr by
      refine z_icmp_le 62 d_J6_numberOfTrailingZeros_0f7a4_52 (by decide) (fun hc4 => ?_) (fun hc4 => ?_)
      · exact z_eq (qc (qi (qif_t hc4).symm) (qc (qi (qif_t hc4).symm) rfl)) rfl rfl kJ52
      · refine z_iinc (ls' := [qI ((nz1 (nz1 (y, 1) 65536 16) 256 8).1), qI (((nz1 (nz1 (y, 1) 65536 16) 256 8).2) + 4)]) d_J6_numberOfTrailingZeros_0f7a4_55 rfl (by decide) (by omega) rfl ?_
        refine z_iload_n d_J6_numberOfTrailingZeros_0f7a4_58 rfl rfl ?_
        refine z_iconst d_J6_numberOfTrailingZeros_0f7a4_59 (by decide) ?_
        refine z_iushr d_J6_numberOfTrailingZeros_0f7a4_60 ?_
        refine z_istore_n (ls' := [qI (qUshr ((nz1 (nz1 (y, 1) 65536 16) 256 8).1) 4), qI (((nz1 (nz1 (y, 1) 65536 16) 256 8).2) + 4)]) d_J6_numberOfTrailingZeros_0f7a4_61 rfl (by decide) rfl ?_
        exact z_eq (qc (qi (qif_f hc4).symm) (qc (qi (qif_f hc4).symm) rfl)) rfl rfl kJ52
    have hb3 : 0 ≤ (nz1 (nz1 (nz1 (y, 1) 65536 16) 256 8) 16 4).2 ∧ (nz1 (nz1 (nz1 (y, 1) 65536 16) 256 8) 16 4).2 ≤ 29 := by have := nz1_bd (p := (nz1 (nz1 (y, 1) 65536 16) 256 8)) (c := 16) (s := 4) (B := 25) hb2 (by decide); omega
    refine z_eq (qc (qi (show (qif (((nz1 (nz1 (y, 1) 65536 16) 256 8).1) ≤ 16) ((nz1 (nz1 (y, 1) 65536 16) 256 8).1) (qUshr ((nz1 (nz1 (y, 1) 65536 16) 256 8).1) 4)) = ((nz1 (nz1 (nz1 (y, 1) 65536 16) 256 8) 16 4).1) from nz1_1)) rfl) rfl rfl ?_
    refine z_eq (qc rfl (qc (qi (show (qif (((nz1 (nz1 (y, 1) 65536 16) 256 8).1) ≤ 16) ((nz1 (nz1 (y, 1) 65536 16) 256 8).2) (((nz1 (nz1 (y, 1) 65536 16) 256 8).2) + 4)) = ((nz1 (nz1 (nz1 (y, 1) 65536 16) 256 8) 16 4).2) from nz1_2 rfl)) rfl)) rfl rfl ?_
    refine z_iload_n d_J6_numberOfTrailingZeros_0f7a4_62 rfl rfl ?_
    refine z_iconst d_J6_numberOfTrailingZeros_0f7a4_63 (by decide) ?_
    suffices kJ64 : qEx M_J6_numberOfTrailingZeros_0f7a4 74 [qI (qif (((nz1 (nz1 (nz1 (y, 1) 65536 16) 256 8) 16 4).1) ≤ 4) ((nz1 (nz1 (nz1 (y, 1) 65536 16) 256 8) 16 4).1) (qUshr ((nz1 (nz1 (nz1 (y, 1) 65536 16) 256 8) 16 4).1) 2)), qI (qif (((nz1 (nz1 (nz1 (y, 1) 65536 16) 256 8) 16 4).1) ≤ 4) ((nz1 (nz1 (nz1 (y, 1) 65536 16) 256 8) 16 4).2) (((nz1 (nz1 (nz1 (y, 1) 65536 16) 256 8) 16 4).2) + 2))] [] h r hr by
      refine z_icmp_le 74 d_J6_numberOfTrailingZeros_0f7a4_64 (by decide) (fun hc5 => ?_) (fun hc5 => ?_)
      · exact z_eq (qc (qi (qif_t hc5).symm) (qc (qi (qif_t hc5).symm) rfl)) rfl rfl kJ64
      · refine z_iinc (ls' := [qI ((nz1 (nz1 (nz1 (y, 1) 65536 16) 256 8) 16 4).1), qI (((nz1 (nz1 (nz1 (y, 1) 65536 16) 256 8) 16 4).2) + 2)]) d_J6_numberOfTrailingZeros_0f7a4_67 rfl (by decide) (by omega) rfl ?_
        refine z_iload_n d_J6_numberOfTrailingZeros_0f7a4_70 rfl rfl ?_
        refine z_iconst d_J6_numberOfTrailingZeros_0f7a4_71 (by decide) ?_
        refine z_iushr d_J6_numberOfTrailingZeros_0f7a4_72 ?_
        refine z_istore_n (ls' := [qI (qUshr ((nz1 (nz1 (nz1 (y, 1) 65536 16) 256 8) 16 4).1) 2), qI (((nz1 (nz1 (nz1 (y, 1) 65536 16) 256 8) 16 4).2) + 2)]) d_J6_numberOfTrailingZeros_0f7a4_73 rfl (by decide) rfl ?_
        exact z_eq (qc (qi (qif_f hc5).symm) (qc (qi (qif_f hc5).symm) rfl)) rfl rfl kJ64
    have hb4 : 0 ≤ (nz1 (nz1 (nz1 (nz1 (y, 1) 65536 16) 256 8) 16 4) 4 2).2 ∧ (nz1 (nz1 (nz1 (nz1 (y, 1) 65536 16) 256 8) 16 4) 4 2).2 ≤ 31 := by have := nz1_bd (p := (nz1 (nz1 (nz1 (y, 1) 65536 16) 256 8) 16 4)) (c := 4) (s := 2) (B := 29) hb3 (by decide); omega
    refine z_eq (qc (qi (show (qif (((nz1 (nz1 (nz1 (y, 1) 65536 16) 256 8) 16 4).1) ≤ 4) ((nz1 (nz1 (nz1 (y, 1) 65536 16) 256 8) 16 4).1) (qUshr ((nz1 (nz1 (nz1 (y, 1) 65536 16) 256 8) 16 4).1) 2)) = ((nz1 (nz1 (nz1 (nz1 (y, 1) 65536 16) 256 8) 16 4) 4 2).1) from nz1_1)) rfl) rfl rfl ?_
    refine z_eq (qc rfl (qc (qi (show (qif (((nz1 (nz1 (nz1 (y, 1) 65536 16) 256 8) 16 4).1) ≤ 4) ((nz1 (nz1 (nz1 (y, 1) 65536 16) 256 8) 16 4).2) (((nz1 (nz1 (nz1 (y, 1) 65536 16) 256 8) 16 4).2) + 2)) = ((nz1 (nz1 (nz1 (nz1 (y, 1) 65536 16) 256 8) 16 4) 4 2).2) from nz1_2 rfl)) rfl)) rfl rfl ?_
    refine z_iload_n d_J6_numberOfTrailingZeros_0f7a4_74 rfl rfl ?_
    refine z_iload_n d_J6_numberOfTrailingZeros_0f7a4_75 rfl rfl ?_
    refine z_iconst d_J6_numberOfTrailingZeros_0f7a4_76 (by decide) ?_
    refine z_iushr d_J6_numberOfTrailingZeros_0f7a4_77 ?_
    refine z_iadd d_J6_numberOfTrailingZeros_0f7a4_78 (by (have := nz_all ⟨k, hk⟩ (nz_k1 hyk hc1); unfold nzP at this; rw [← hyk] at this; omega)) ?_
    exact z_iret d_J6_numberOfTrailingZeros_0f7a4_79 rfl (qer er (by have := nz_all ⟨k, hk⟩ (nz_k1 hyk hc1); unfold nzP at this; rw [← hyk] at this; exact this.symm)) eh
  · have hk0 := nz_k0 hyk hc1
    refine z_iload_n d_J6_numberOfTrailingZeros_0f7a4_12 rfl rfl ?_
    refine z_bipush d_J6_numberOfTrailingZeros_0f7a4_13 (by decide) ?_
    refine z_iand d_J6_numberOfTrailingZeros_0f7a4_15 ?_
    exact z_iret d_J6_numberOfTrailingZeros_0f7a4_16 rfl (qer er (by subst hk0; rw [hyk]; rfl)) eh
/-- the page at p holds the rules R (four numbers each), c of them -/
def pgR (F G : Nat → Nat → Int) (p : Nat) (R : Nat → Int) (c : Int) : Prop :=
  F p 4 = c ∧ 0 ≤ c ∧ c ≤ 24 ∧ (∀ i : Nat, (i : Int) < c → (∀ s, s < 9 → tb (G (p + 1) s) i = tb (R (4 * i)) s ∧ tb (G (p + 2) s) i = tb (R (4 * i + 1)) s ∧ tb (G (p + 3) s) i = tb (R (4 * i + 2)) s) ∧ G (p + 4) i = R (4 * i + 3)) ∧ ∀ i s : Nat, c ≤ (i : Int) → i < 32 → s < 9 → tb (G (p + 1) s) i = false
theorem pgR_cg {F G F' G' : Nat → Nat → Int} {p : Nat} {R : Nat → Int} {c : Int} (h : pgR F G p R c) (e0 : F' p 4 = F p 4) (e1 : ∀ s, s < 9 → G' (p + 1) s = G (p + 1) s) (e2 : ∀ s, s < 9 → G' (p + 2) s = G (p + 2) s) (e3 : ∀ s, s < 9 → G' (p + 3) s = G (p + 3) s) (e4 : ∀ i, i < 24 → G' (p + 4) i = G (p + 4) i) : pgR F' G' p R c := by
  obtain ⟨a, b, d, e, f⟩ := h
  refine ⟨e0.trans a, b, d, fun i hi => ⟨fun s hs => ?_, ?_⟩, fun i s h1 h2 h3 => ?_⟩
  · rw [e1 s hs, e2 s hs, e3 s hs]; exact (e i hi).1 s hs
  · rw [e4 i (by omega)]; exact (e i hi).2
  · rw [e1 s h3]; exact f i s h1 h2 h3
/-- another page that holds the same -/
theorem pgR_mv {F G F' G' : Nat → Nat → Int} {p q : Nat} {R : Nat → Int} {c : Int} (h : pgR F G q R c) (e0 : F' p 4 = F q 4) (e1 : ∀ s, s < 9 → G' (p + 1) s = G (q + 1) s) (e2 : ∀ s, s < 9 → G' (p + 2) s = G (q + 2) s) (e3 : ∀ s, s < 9 → G' (p + 3) s = G (q + 3) s) (e4 : ∀ i, i < 24 → G' (p + 4) i = G (q + 4) i) : pgR F' G' p R c := by
  obtain ⟨a, b, d, e, f⟩ := h
  refine ⟨e0.trans a, b, d, fun i hi => ⟨fun s hs => ?_, ?_⟩, fun i s h1 h2 h3 => ?_⟩
  · rw [e1 s hs, e2 s hs, e3 s hs]; exact (e i hi).1 s hs
  · rw [e4 i (by omega)]; exact (e i hi).2
  · rw [e1 s h3]; exact f i s h1 h2 h3
/-- the first rule of the page that fits -/
noncomputable def pgF (R : Nat → Int) (c : Int) (o l r : Nat) : Int := fst (fun i => (i : Int) < c ∧ bkFt R i o l r) 24
theorem pgF_bd (R : Nat → Int) (c : Int) (o l r : Nat) : -1 ≤ pgF R c o l r ∧ pgF R c o l r < 24 := by
  unfold pgF
  rcases fst_cases (fun i => (i : Int) < c ∧ bkFt R i o l r) 24 with ⟨e, -⟩ | ⟨i, hi, e, -⟩ <;> rw [e] <;> omega
theorem pg_bits {F G : Nat → Nat → Int} {p : Nat} {R : Nat → Int} {c : Int} {o l r : Nat} (h : pgR F G p R c) (ho : o < 9) (hl : l < 9) (hr : r < 9) (i : Nat) (hi : i < 32) : tb (qAnd (qAnd (G (p + 1) o) (G (p + 2) l)) (G (p + 3) r)) i = true ↔ (i : Int) < c ∧ bkFt R i o l r := by
  obtain ⟨a, b, d, e, f⟩ := h
  rw [tb_and, tb_and]
  by_cases hc : (i : Int) < c
  · obtain ⟨x, -⟩ := e i hc
    rw [(x o ho).1, (x l hl).2.1, (x r hr).2.2]
    unfold bkFt
    simp only [Bool.and_eq_true]
    exact ⟨fun z => ⟨hc, z.1.1, z.1.2, z.2⟩, fun z => ⟨⟨z.2.1, z.2.2.1⟩, z.2.2.2⟩⟩
  · rw [f i o (by omega) hi ho]
    simp only [Bool.false_and]
    exact ⟨fun z => absurd z (by decide), fun z => absurd z.1 hc⟩
theorem pg_none {F G : Nat → Nat → Int} {p : Nat} {R : Nat → Int} {c : Int} {o l r : Nat} (h : pgR F G p R c) (ho : o < 9) (hl : l < 9) (hr : r < 9) (hz : qAnd (qAnd (G (p + 1) o) (G (p + 2) l)) (G (p + 3) r) = 0) : pgF R c o l r = -1 :=
  fst_none (fun i hi z => by
    have := (pg_bits h ho hl hr i (by omega)).mpr z
    rw [hz, tb_0] at this
    exact absurd this (by decide))
theorem pg_some {F G : Nat → Nat → Int} {p : Nat} {R : Nat → Int} {c : Int} {o l r : Nat} (h : pgR F G p R c) (ho : o < 9) (hl : l < 9) (hr : r < 9) (hz : qAnd (qAnd (G (p + 1) o) (G (p + 2) l)) (G (p + 3) r) ≠ 0) : ∃ k : Nat, k < 24 ∧ pgF R c o l r = (k : Int) ∧ 0 < qAnd (qAnd (G (p + 1) o) (G (p + 2) l)) (G (p + 3) r) ∧ qAnd (qAnd (G (p + 1) o) (G (p + 2) l)) (G (p + 3) r) < 2147483648 ∧ tb (qAnd (qAnd (G (p + 1) o) (G (p + 2) l)) (G (p + 3) r)) k = true ∧ ∀ j : Nat, j < k → tb (qAnd (qAnd (G (p + 1) o) (G (p + 2) l)) (G (p + 3) r)) j = false := by
  have hR := qAnd_R (qAnd (G (p + 1) o) (G (p + 2) l)) (G (p + 3) r)
  have hc24 := h.2.2.1
  have hnn : 0 ≤ qAnd (qAnd (G (p + 1) o) (G (p + 2) l)) (G (p + 3) r) := by
    refine nn_of_tb hR ?_
    rcases Bool.eq_false_or_eq_true (tb (qAnd (qAnd (G (p + 1) o) (G (p + 2) l)) (G (p + 3) r)) 31) with z | z
    · have := (pg_bits h ho hl hr 31 (by decide)).mp z
      have := this.1
      omega
    · exact z
  rcases fst_cases (fun i : Nat => (i : Int) < c ∧ bkFt R i o l r) 24 with ⟨e, hn⟩ | ⟨i, hi, e, h1, h2⟩
  · refine absurd (tb_ext hR (by unfold R32; omega) (fun j hj => ?_)) hz
    rw [tb_0]
    rcases Bool.eq_false_or_eq_true (tb (qAnd (qAnd (G (p + 1) o) (G (p + 2) l)) (G (p + 3) r)) j) with z | z
    · have z2 := (pg_bits h ho hl hr j hj).mp z
      exact absurd z2 (hn j (by have := z2.1; omega))
    · exact z
  · refine ⟨i, hi, e, by omega, by unfold R32 at hR; omega, (pg_bits h ho hl hr i (by omega)).mpr h1, fun j hj => ?_⟩
    rcases Bool.eq_false_or_eq_true (tb (qAnd (qAnd (G (p + 1) o) (G (p + 2) l)) (G (p + 3) r)) j) with z | z
    · exact absurd ((pg_bits h ho hl hr j (by omega)).mp z) (h2 j hj)
    · exact z
set_option maxRecDepth 20000 in
set_option maxHeartbeats 4000000 in
theorem c_pgClear {h : qH} {F G : Nat → Nat → Int} {p : Nat} (hp2 : 2 ≤ p) (hp : xk p = 2) : qEx M_X2_clear 0 [qR p] [] (xput h F G) none (xput h (gup F p (qup (F p) 4 0)) (gup (gup (gup G (p + 1) (qmx 9 (fun _ => 0) (G (p + 1)))) (p + 2) (qmx 9 (fun _ => 0) (G (p + 2)))) (p + 3) (qmx 9 (fun _ => 0) (G (p + 3))))) := by
  refine q_gen (fun r hr er eh => ?_)
  refine z_aload_n d_X2_clear_0 rfl rfl ?_
  refine z_getf (v := qR (p + 1)) d_X2_clear_1 fl_X2_9 (xput_ob (c := (F p)) (pgx_in hp2 hp) rfl (xsh_2 hp)) rfl ?_
  refine z_iconst d_X2_clear_4 (by decide) ?_
  refine z_cs0 (M1 := M_J7_fill_53178) d_X2_clear_5 ls_X2_28 k_J7_fill_53178 [qR (p + 1), qI 0] rfl rfl (Nat.le_of_ble_eq_true rfl) (by decide) (by decide) (Nat.le_of_ble_eq_true rfl) (c_fill (xput_ar (g := (G (p + 1))) (pgx_1 hp2 hp) rfl) (by omega) (by decide)) ?_
  refine z_eq rfl rfl (xput_sa (pgx_1 hp2 hp)) ?_
  refine z_aload_n d_X2_clear_8 rfl rfl ?_
  refine z_getf (v := qR (p + 2)) d_X2_clear_9 fl_X2_15 (xput_ob (c := (F p)) (pgx_in hp2 hp) rfl (xsh_2 hp)) rfl ?_
  refine z_iconst d_X2_clear_12 (by decide) ?_
  refine z_cs0 (M1 := M_J7_fill_53178) d_X2_clear_13 ls_X2_28 k_J7_fill_53178 [qR (p + 2), qI 0] rfl rfl (Nat.le_of_ble_eq_true rfl) (by decide) (by decide) (Nat.le_of_ble_eq_true rfl) (c_fill (xput_ar (g := (G (p + 2))) (pgx_2 hp2 hp) (gup_ne (by omega))) (by omega) (by decide)) ?_
  refine z_eq rfl rfl (xput_sa (pgx_2 hp2 hp)) ?_
  refine z_aload_n d_X2_clear_16 rfl rfl ?_
  refine z_getf (v := qR (p + 3)) d_X2_clear_17 fl_X2_18 (xput_ob (c := (F p)) (pgx_in hp2 hp) rfl (xsh_2 hp)) rfl ?_
  refine z_iconst d_X2_clear_20 (by decide) ?_
  refine z_cs0 (M1 := M_J7_fill_53178) d_X2_clear_21 ls_X2_28 k_J7_fill_53178 [qR (p + 3), qI 0] rfl rfl (Nat.le_of_ble_eq_true rfl) (by decide) (by decide) (Nat.le_of_ble_eq_true rfl) (c_fill (xput_ar (g := (G (p + 3))) (pgx_3 hp2 hp) ((gup_ne (by omega)).trans (gup_ne (by omega)))) (by omega) (by decide)) ?_
  refine z_eq rfl rfl (xput_sa (pgx_3 hp2 hp)) ?_
  refine z_aload_n d_X2_clear_24 rfl rfl ?_
  refine z_iconst d_X2_clear_25 (by decide) ?_
  refine z_putf (fs' := [qR (p + 1), qR (p + 2), qR (p + 3), qR (p + 4), qI 0]) d_X2_clear_26 fp_X2_24 (xput_ob (c := (F p)) (pgx_in hp2 hp) rfl (xsh_2 hp)) (fun _ => rfl) (fun _ => rfl) (Nat.le_of_ble_eq_true rfl) rfl ?_
  refine z_eq rfl rfl (xput_sf (c := (qup (F p) 4 0)) (pgx_in hp2 hp) (xsh_2 hp)) ?_
  exact z_vret d_X2_clear_29 rfl er eh
set_option maxRecDepth 20000 in
set_option maxHeartbeats 4000000 in
theorem c_pgCopy0 {h : qH} {F G : Nat → Nat → Int} {p q : Nat} (hp2 : 2 ≤ p) (hp : xk p = 2) (hq2 : 2 ≤ q) (hq : xk q = 2) (hd : p + 4 < q ∨ q + 4 < p) : qEx M_X2_copyFrom 0 [qR p, qR q] [] (xput h F G) none (xput h (gup F p (qup (F p) 4 (F q 4))) (gup (gup (gup (gup G (p + 1) (qcpy (G (q + 1)) (G (p + 1)) (Int.toNat 0) (Int.toNat 0) (Int.toNat 9))) (p + 2) (qcpy (G (q + 2)) (G (p + 2)) (Int.toNat 0) (Int.toNat 0) (Int.toNat 9))) (p + 3) (qcpy (G (q + 3)) (G (p + 3)) (Int.toNat 0) (Int.toNat 0) (Int.toNat 9))) (p + 4) (qcpy (G (q + 4)) (G (p + 4)) (Int.toNat 0) (Int.toNat 0) (Int.toNat 24)))) := by
  refine q_gen (fun r hr er eh => ?_)
  refine z_aload_n d_X2_copyFrom_0 rfl rfl ?_
  refine z_getf (v := qR (q + 1)) d_X2_copyFrom_1 fl_X2_9 (xput_ob (c := (F q)) (pgx_in hq2 hq) rfl (xsh_2 hq)) rfl ?_
  refine z_iconst d_X2_copyFrom_4 (by decide) ?_
  refine z_aload_n d_X2_copyFrom_5 rfl rfl ?_
  refine z_getf (v := qR (p + 1)) d_X2_copyFrom_6 fl_X2_9 (xput_ob (c := (F p)) (pgx_in hp2 hp) rfl (xsh_2 hp)) rfl ?_
  refine z_iconst d_X2_copyFrom_9 (by decide) ?_
  refine z_bipush d_X2_copyFrom_10 (by decide) ?_
  refine z_copy d_X2_copyFrom_12 lc_X2_34 (by decide) (Nat.le_of_ble_eq_true rfl) (xput_ar (g := (G (q + 1))) (pgx_1 hq2 hq) rfl) (xput_ar (g := (G (p + 1))) (pgx_1 hp2 hp) rfl) (by omega) (by omega) (by omega) (by omega) (by omega) (by omega) (by omega) ?_
  refine z_eq rfl rfl (xput_sa (pgx_1 hp2 hp)) ?_
  refine z_aload_n d_X2_copyFrom_15 rfl rfl ?_
  refine z_getf (v := qR (q + 2)) d_X2_copyFrom_16 fl_X2_15 (xput_ob (c := (F q)) (pgx_in hq2 hq) rfl (xsh_2 hq)) rfl ?_
  refine z_iconst d_X2_copyFrom_19 (by decide) ?_
  refine z_aload_n d_X2_copyFrom_20 rfl rfl ?_
  refine z_getf (v := qR (p + 2)) d_X2_copyFrom_21 fl_X2_15 (xput_ob (c := (F p)) (pgx_in hp2 hp) rfl (xsh_2 hp)) rfl ?_
  refine z_iconst d_X2_copyFrom_24 (by decide) ?_
  refine z_bipush d_X2_copyFrom_25 (by decide) ?_
  refine z_copy d_X2_copyFrom_27 lc_X2_34 (by decide) (Nat.le_of_ble_eq_true rfl) (xput_ar (g := (G (q + 2))) (pgx_2 hq2 hq) (gup_ne (by omega))) (xput_ar (g := (G (p + 2))) (pgx_2 hp2 hp) (gup_ne (by omega))) (by omega) (by omega) (by omega) (by omega) (by omega) (by omega) (by omega) ?_
  refine z_eq rfl rfl (xput_sa (pgx_2 hp2 hp)) ?_
  refine z_aload_n d_X2_copyFrom_30 rfl rfl ?_
  refine z_getf (v := qR (q + 3)) d_X2_copyFrom_31 fl_X2_18 (xput_ob (c := (F q)) (pgx_in hq2 hq) rfl (xsh_2 hq)) rfl ?_
  refine z_iconst d_X2_copyFrom_34 (by decide) ?_
  refine z_aload_n d_X2_copyFrom_35 rfl rfl ?_
  refine z_getf (v := qR (p + 3)) d_X2_copyFrom_36 fl_X2_18 (xput_ob (c := (F p)) (pgx_in hp2 hp) rfl (xsh_2 hp)) rfl ?_
  refine z_iconst d_X2_copyFrom_39 (by decide) ?_
  refine z_bipush d_X2_copyFrom_40 (by decide) ?_
  refine z_copy d_X2_copyFrom_42 lc_X2_34 (by decide) (Nat.le_of_ble_eq_true rfl) (xput_ar (g := (G (q + 3))) (pgx_3 hq2 hq) ((gup_ne (by omega)).trans (gup_ne (by omega)))) (xput_ar (g := (G (p + 3))) (pgx_3 hp2 hp) ((gup_ne (by omega)).trans (gup_ne (by omega)))) (by omega) (by omega) (by omega) (by omega) (by omega) (by omega) (by omega) ?_
  refine z_eq rfl rfl (xput_sa (pgx_3 hp2 hp)) ?_
  refine z_aload_n d_X2_copyFrom_45 rfl rfl ?_
  refine z_getf (v := qR (q + 4)) d_X2_copyFrom_46 fl_X2_21 (xput_ob (c := (F q)) (pgx_in hq2 hq) rfl (xsh_2 hq)) rfl ?_
  refine z_iconst d_X2_copyFrom_49 (by decide) ?_
  refine z_aload_n d_X2_copyFrom_50 rfl rfl ?_
  refine z_getf (v := qR (p + 4)) d_X2_copyFrom_51 fl_X2_21 (xput_ob (c := (F p)) (pgx_in hp2 hp) rfl (xsh_2 hp)) rfl ?_
  refine z_iconst d_X2_copyFrom_54 (by decide) ?_
  refine z_bipush d_X2_copyFrom_55 (by decide) ?_
  refine z_copy d_X2_copyFrom_57 lc_X2_34 (by decide) (Nat.le_of_ble_eq_true rfl) (xput_ar (g := (G (q + 4))) (pgx_4 hq2 hq) (((gup_ne (by omega)).trans (gup_ne (by omega))).trans (gup_ne (by omega)))) (xput_ar (g := (G (p + 4))) (pgx_4 hp2 hp) (((gup_ne (by omega)).trans (gup_ne (by omega))).trans (gup_ne (by omega)))) (by omega) (by omega) (by omega) (by omega) (by omega) (by omega) (by omega) ?_
  refine z_eq rfl rfl (xput_sa (pgx_4 hp2 hp)) ?_
  refine z_aload_n d_X2_copyFrom_60 rfl rfl ?_
  refine z_aload_n d_X2_copyFrom_61 rfl rfl ?_
  refine z_getf (v := qI ((F q) 4)) d_X2_copyFrom_62 fl_X2_24 (xput_ob (c := (F q)) (pgx_in hq2 hq) rfl (xsh_2 hq)) rfl ?_
  refine z_putf (fs' := [qR (p + 1), qR (p + 2), qR (p + 3), qR (p + 4), qI ((F q) 4)]) d_X2_copyFrom_65 fp_X2_24 (xput_ob (c := (F p)) (pgx_in hp2 hp) rfl (xsh_2 hp)) (fun _ => rfl) (fun _ => rfl) (Nat.le_of_ble_eq_true rfl) rfl ?_
  refine z_eq rfl rfl (xput_sf (c := (qup (F p) 4 ((F q) 4))) (pgx_in hp2 hp) (xsh_2 hp)) ?_
  exact z_vret d_X2_copyFrom_68 rfl er eh
set_option maxRecDepth 20000 in
set_option maxHeartbeats 4000000 in
theorem c_pgHas {h : qH} {F G : Nat → Nat → Int} {p : Nat} (i : Int) (hp2 : 2 ≤ p) (hp : xk p = 2) (hc : 0 ≤ F p 4 ∧ F p 4 ≤ 24) : qEx M_X2_has 0 [qR p, qI i] [] (xput h F G) (some (qI (qb (0 ≤ i ∧ i ≤ F p 4 - 1)))) (xput h F G) := by
  refine q_gen (fun r hr er eh => ?_)
  refine z_iload_n d_X2_has_0 rfl rfl ?_
  refine z_iconst d_X2_has_1 (by decide) ?_
  refine z_aload_n d_X2_has_2 rfl rfl ?_
  refine z_getf (v := qI ((F p) 4)) d_X2_has_3 fl_X2_24 (xput_ob (c := (F p)) (pgx_in hp2 hp) rfl (xsh_2 hp)) rfl ?_
  refine z_iconst d_X2_has_6 (by decide) ?_
  refine z_isub d_X2_has_7 (by omega) ?_
  refine z_cs (M1 := M_X11_isWithin) d_X2_has_8 ls_X2_40 k_X11_isWithin [qI i, qI 0, qI (((F p) 4) - 1)] rfl rfl (Nat.le_of_ble_eq_true rfl) (by decide) (by decide) (Nat.le_of_ble_eq_true rfl) (c_isWithin i 0 (((F p) 4) - 1)) ?_
  exact z_zret d_X2_has_11 rfl (by first | exact qb_01 _ | decide | omega) er eh
set_option maxRecDepth 20000 in
set_option maxHeartbeats 4000000 in
theorem c_pgFit {h : qH} {F G : Nat → Nat → Int} {p : Nat} {R : Nat → Int} {c : Int} (o l r0 : Nat) (hp2 : 2 ≤ p) (hp : xk p = 2) (hR : pgR F G p R c) (ho : o < 9) (hl : l < 9) (hr0 : r0 < 9) : qEx M_X2_firstFit 0 [qR p, qI (o : Int), qI (l : Int), qI (r0 : Int), qU] [] (xput h F G) (some (qI (pgF R c o l r0))) (xput h F G) := by
  refine q_gen (fun r hr er eh => ?_)
  refine z_aload_n d_X2_firstFit_0 rfl rfl ?_
  refine z_getf (v := qR (p + 1)) d_X2_firstFit_1 fl_X2_9 (xput_ob (c := (F p)) (pgx_in hp2 hp) rfl (xsh_2 hp)) rfl ?_
  refine z_iload_n d_X2_firstFit_4 rfl rfl ?_
  refine z_ild o d_X2_firstFit_5 (xput_ar (g := (G (p + 1))) (pgx_1 hp2 hp) rfl) rfl (by omega) ?_
  refine z_aload_n d_X2_firstFit_6 rfl rfl ?_
  refine z_getf (v := qR (p + 2)) d_X2_firstFit_7 fl_X2_15 (xput_ob (c := (F p)) (pgx_in hp2 hp) rfl (xsh_2 hp)) rfl ?_
  refine z_iload_n d_X2_firstFit_10 rfl rfl ?_
  refine z_ild l d_X2_firstFit_11 (xput_ar (g := (G (p + 2))) (pgx_2 hp2 hp) rfl) rfl (by omega) ?_
  refine z_iand d_X2_firstFit_12 ?_
  refine z_aload_n d_X2_firstFit_13 rfl rfl ?_
  refine z_getf (v := qR (p + 3)) d_X2_firstFit_14 fl_X2_18 (xput_ob (c := (F p)) (pgx_in hp2 hp) rfl (xsh_2 hp)) rfl ?_
  refine z_iload_n d_X2_firstFit_17 rfl rfl ?_
  refine z_ild r0 d_X2_firstFit_18 (xput_ar (g := (G (p + 3))) (pgx_3 hp2 hp) rfl) rfl (by omega) ?_
  refine z_iand d_X2_firstFit_19 ?_
  refine z_istore (ls' := [qR p, qI (o : Int), qI (l : Int), qI (r0 : Int), qI (qAnd (qAnd ((G (p + 1)) o) ((G (p + 2)) l)) ((G (p + 3)) r0))]) d_X2_firstFit_20 (by decide) rfl ?_
  refine z_iload d_X2_firstFit_22 rfl ?_
  refine z_if_ne 31 d_X2_firstFit_24 (by decide) (fun q1 => ?_) (fun q1 => ?_)
  · obtain ⟨k, hk, ek, hx0, hx1, ht, hlw⟩ := pg_some hR ho hl hr0 q1
    refine z_iload d_X2_firstFit_31 rfl ?_
    refine z_cs (M1 := M_J6_numberOfTrailingZeros_0f7a4) d_X2_firstFit_33 ls_X2_44 k_J6_numberOfTrailingZeros_0f7a4 [qI (qAnd (qAnd ((G (p + 1)) o) ((G (p + 2)) l)) ((G (p + 3)) r0))] rfl rfl (Nat.le_of_ble_eq_true rfl) (by decide) (by decide) (Nat.le_of_ble_eq_true rfl) (c_ntz (qAnd (qAnd ((G (p + 1)) o) ((G (p + 2)) l)) ((G (p + 3)) r0)) k hx0 hx1 hk ht hlw) ?_
    exact z_iret d_X2_firstFit_36 rfl (qer er ek) eh
  · refine z_iconst d_X2_firstFit_27 (by decide) ?_
    refine z_goto 36 d_X2_firstFit_28 (by decide) ?_
    exact z_iret d_X2_firstFit_36 rfl (qer er (pg_none hR ho hl hr0 (Classical.not_not.mp q1))) eh
set_option maxRecDepth 20000 in
set_option maxHeartbeats 4000000 in
theorem c_pgMind {h : qH} {F G : Nat → Nat → Int} {p : Nat} {R : Nat → Int} {c : Int} (i : Nat) (o : Int) (hp2 : 2 ≤ p) (hp : xk p = 2) (hR : pgR F G p R c) (hi : (i : Int) < c) : qEx M_X2_mindBy 0 [qR p, qI (i : Int), qI o] [] (xput h F G) (some (qI (sbR R i o))) (xput h F G) := by
  refine q_gen (fun r hr er eh => ?_)
  have hc24 := hR.2.2.1
  have hm := (hR.2.2.2.1 i hi).2
  refine z_aload_n d_X2_mindBy_0 rfl rfl ?_
  refine z_getf (v := qR (p + 4)) d_X2_mindBy_1 fl_X2_21 (xput_ob (c := (F p)) (pgx_in hp2 hp) rfl (xsh_2 hp)) rfl ?_
  refine z_iload_n d_X2_mindBy_4 rfl rfl ?_
  refine z_ild i d_X2_mindBy_5 (xput_ar (g := (G (p + 4))) (pgx_4 hp2 hp) rfl) rfl (by omega) ?_
  refine z_bipush d_X2_mindBy_6 (by decide) ?_
  suffices kJ8 : qEx M_X2_mindBy 21 [qR p, qI (i : Int), qI o] [qI (qif (((G (p + 4)) i) ≠ 8) ((G (p + 4)) i) o)] (xput h F G) r hr by
    refine z_icmp_ne 15 d_X2_mindBy_8 (by decide) (fun hc1 => ?_) (fun hc1 => ?_)
    · refine z_aload_n d_X2_mindBy_15 rfl rfl ?_
      refine z_getf (v := qR (p + 4)) d_X2_mindBy_16 fl_X2_21 (xput_ob (c := (F p)) (pgx_in hp2 hp) rfl (xsh_2 hp)) rfl ?_
      refine z_iload_n d_X2_mindBy_19 rfl rfl ?_
      refine z_ild i d_X2_mindBy_20 (xput_ar (g := (G (p + 4))) (pgx_4 hp2 hp) rfl) rfl (by omega) ?_
      exact z_eq rfl (qc (qi (qif_t hc1).symm) rfl) rfl kJ8
    · refine z_iload_n d_X2_mindBy_11 rfl rfl ?_
      refine z_goto 21 d_X2_mindBy_12 (by decide) ?_
      exact z_eq rfl (qc (qi (qif_f hc1).symm) rfl) rfl kJ8
  exact z_iret d_X2_mindBy_21 rfl (qer er (by unfold sbR; rw [hm])) eh
