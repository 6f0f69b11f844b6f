/-! ===== CONTRACTS: echo, lights, unlike, of, look; refusals ===== -/
theorem tb_shr2 (x : Int) {j : Nat} (k : Nat) (hj : j < 32) (hk : ¬ k + j < 32) (hk2 : k < 32) (h0 : 0 ≤ x) (h1 : x < 2147483648) : tb (qShr x (j : Int)) k = false := by
  have e31 : tb x 31 = false := by rw [tb_neg (show R32 x from ⟨by omega, by omega⟩)]; exact decide_eq_false (by omega)
  unfold tb at e31
  unfold tb qShr
  rw [Int32.ofInt_toInt, Int32.toBitVec_shiftRight, sh_amt ⟨j, hj⟩, BitVec.getLsbD_sshiftRight']
  have e : (BitVec.ofNat 32 j).toNat = j := by rw [BitVec.toNat_ofNat]; omega
  simp only [e]
  rw [if_neg (by omega), BitVec.msb_eq_getLsbD_last]
  first | simp only [Nat.reduceSub, e31, Bool.and_false] | (rw [show (32 - 1 : Nat) = 31 from rfl, e31, Bool.and_false])
theorem lg_eq {lt : Int} {n i : Nat} (hn : 1 ≤ n ∧ n ≤ 12) (hi : i < 2 ^ n) : qXor lt (qAnd (qXor (qXor (i : Int) (qShl (i : Int) 1)) (qShr (i : Int) 1)) (((2 ^ n : Nat) : Int) - 1)) = lgX lt (((2 ^ n : Nat) : Int) - 1) i := by
  have hp2 : 2 ^ n ≤ 2 ^ 12 := Nat.pow_le_pow_right (by decide) hn.2
  have hp1 := Nat.two_pow_pos n
  have hal : ∀ k, k < 32 → tb (((2 ^ n : Nat) : Int) - 1) k = decide (k < n) := fun k hk => by
    rw [show ((2 ^ n : Nat) : Int) - 1 = ((2 ^ n - 1 : Nat) : Int) by omega, tb_nat (by omega) k hk, Int.toNat_natCast, Nat.testBit_two_pow_sub_one]
  have hib : ∀ k, n ≤ k → k < 32 → tb (i : Int) k = false := fun k h1 h2 => by
    rw [tb_nat (by omega) k h2, Int.toNat_natCast]
    exact Nat.testBit_lt_two_pow (Nat.lt_of_lt_of_le hi (Nat.pow_le_pow_right (by decide) h1))
  have hi4 : i < 4096 := Nat.lt_of_lt_of_le hi hp2
  refine tb_ext (qXor_R _ _) (qXor_R _ _) (fun k hk => ?_)
  unfold lgX
  simp only [tb_xor, tb_and, hal k hk]
  by_cases z : k < n
  · simp [z, Bool.xor_assoc]
  · have e1 := hib k (by omega) hk
    have e2 : tb (qShr (i : Int) 1) k = false := by
      by_cases y : k + 1 < 32
      · have := tb_shr (i : Int) (j := 1) k (by decide) y
        rw [show ((1 : Nat) : Int) = 1 from rfl] at this
        rw [this]; exact hib (k + 1) (by omega) y
      · have := tb_shr2 (i : Int) (j := 1) k (by decide) y hk (by omega) (by omega)
        exact this
    simp [z, e1, e2]
theorem bc12 {x : Int} (h0 : 0 ≤ x) (h1 : x < 4096) : cnt (fun q => tb x q = true) 32 = on12 x := by
  have e := cnt_add (fun q => tb x q = true) 12 20
  unfold on12
  have e2 : cnt (fun k => tb x (12 + k) = true) 20 = 0 := cnt_0.mpr (fun k hk z => by
    rw [tb_nat h0 (12 + k) (by omega), Nat.testBit_lt_two_pow (Nat.lt_of_lt_of_le (show x.toNat < 2 ^ 12 by omega) (Nat.pow_le_pow_right (by decide) (by omega)))] at z
    cases z)
  rw [show (32 : Nat) = 12 + 20 from rfl, e, e2]
  omega
theorem lgB_s {lt al : Int} {i : Nat} {P : Prop} (hP : P ↔ lgX lt al i = al) : qif (¬ P) (lgB lt al i) (qif (lgB lt al i = -1) (i : Int) (qif (on12 (i : Int) ≥ on12 (lgB lt al i)) (lgB lt al i) (i : Int))) = lgB lt al (i + 1) := by
  show _ = qif (lgX lt al i ≠ al) (lgB lt al i) (qif (lgB lt al i = -1) (i : Int) (qif (on12 (i : Int) ≥ on12 (lgB lt al i)) (lgB lt al i) (i : Int)))
  exact qif_cg (not_congr hP) rfl rfl
def upP (R C : Nat → Int) (p q c : Nat) : Prop := pgA (fun j => R (96 * p + j)) (C p) (c / 81) (c / 9 % 9) (c % 9) ≠ pgA (fun j => R (96 * q + j)) (C q) (c / 81) (c / 9 % 9) (c % 9)
theorem ul_t {p : Nat → Prop} {i : Nat} (h : p i) : qif (cnt p i ≠ 0) (ulE (fst p i)) (c3 i) = ulE (fst p (i + 1)) := by
  rw [fst_s]
  by_cases z : cnt p i = 0
  · have e := fst_cnt.mpr z
    rw [qif_f (fun y => y z), e, qif_f (fun y => y rfl), qif_t h]
    unfold ulE
    rw [qif_f (by omega), Int.toNat_natCast]
  · have e : fst p i ≠ -1 := fun y => z (fst_cnt.mp y)
    rw [qif_t z, qif_t e]
theorem ul_f {p : Nat → Prop} {i : Nat} (h : ¬ p i) : ulE (fst p i) = ulE (fst p (i + 1)) := by
  rw [fst_s]
  by_cases z : fst p i = -1
  · rw [qif_f (fun y => y z), qif_f h, z]
  · rw [qif_t z]
set_option maxRecDepth 20000 in
set_option maxHeartbeats 4000000 in
theorem xc_echo0 {h : qH} {F G : Nat → Nat → Int} {K : Nat} {MK : Nat → Int} (i n : Nat) (t : Int) {p a b : Int} (hM : rwR F G 63 K MK) (hi : i < K) (hn : 2 ≤ n ∧ n ≤ 99) (ht : 0 ≤ t ∧ t ≤ 999) (hp : MK (4 * i) = p) (ha : MK (4 * i + 2) = a) (hb : MK (4 * i + 3) = b) (bp : 0 ≤ p ∧ p ≤ 99) (ba : -9 ≤ a ∧ a ≤ 9) (bb : 1 ≤ b ∧ b ≤ 9) : qEx M_X11_echo 0 [qR 2, qI (i : Int), qI (n : Int), qI t, qI 0, qU, qU, qU, qU, qU] [] (xput h F G) (some (qI (qif (p > (n : Int) - 1) (-10000000) (lowR (if ((p * b + t * a) % (2 * (((n : Int) - 1) * b))) > (((n : Int) - 1) * b) then 2 * (((n : Int) - 1) * b) - ((p * b + t * a) % (2 * (((n : Int) - 1) * b))) else ((p * b + t * a) % (2 * (((n : Int) - 1) * b)))) b 1)))) (xput h F G) := by
  refine q_gen (fun r hr er eh => ?_)
  have m1 := mulb (x := p) (y := b) 99 9 891 (by omega) (by omega) rfl
  have m2 := mulb (x := a) (y := t) 9 999 8991 (by omega) (by omega) rfl
  have m3 := mulb (x := t) (y := a) 999 9 8991 (by omega) (by omega) rfl
  have m4 := mulb (x := (n : Int) - 1) (y := b) 98 9 882 (by omega) (by omega) rfl
  have m5 : 0 < (((n : Int) - 1) * b) := Int.mul_pos (by omega) (by omega)
  have v1 := Int.emod_nonneg (p * b + t * a) (show 2 * (((n : Int) - 1) * b) ≠ 0 by omega)
  have v2 := Int.emod_lt_of_pos (p * b + t * a) (show 0 < 2 * (((n : Int) - 1) * b) by omega)
  have v3 : -100000000 ≤ (if ((p * b + t * a) % (2 * (((n : Int) - 1) * b))) > (((n : Int) - 1) * b) then 2 * (((n : Int) - 1) * b) - ((p * b + t * a) % (2 * (((n : Int) - 1) * b))) else ((p * b + t * a) % (2 * (((n : Int) - 1) * b)))) ∧ (if ((p * b + t * a) % (2 * (((n : Int) - 1) * b))) > (((n : Int) - 1) * b) then 2 * (((n : Int) - 1) * b) - ((p * b + t * a) % (2 * (((n : Int) - 1) * b))) else ((p * b + t * a) % (2 * (((n : Int) - 1) * b)))) ≤ 100000000 := by split <;> omega
  refine z_aload_n d_X11_echo_0 rfl rfl ?_
  refine z_getf (v := qR 3) d_X11_echo_1 fl_X11_12 (xput_ob (c := (F 2)) xi_2 rfl (xsh_11 xo_2)) rfl ?_
  refine z_getf (v := qR 63) d_X11_echo_4 fl_X11_426 (xput_ob (c := (F 3)) xi_3 rfl (xsh_8 xo_3)) rfl ?_
  refine z_astore (ls' := [qR 2, qI (i : Int), qI (n : Int), qI t, qI 0, qR 63, qU, qU, qU, qU]) d_X11_echo_7 (by decide) rfl ?_
  refine z_aload d_X11_echo_9 rfl ?_
  refine z_iload_n d_X11_echo_11 rfl rfl ?_
  refine z_cv (M1 := M_X6_has) d_X11_echo_12 lv_X11_435 k_X6_has [qI (i : Int)] rfl rfl (xput_ob (c := (F 63)) xi_63 rfl (xsh_6 xo_63)) ⟨_, _, rfl⟩ (Nat.le_of_ble_eq_true rfl) (by decide) (by decide) (Nat.le_of_ble_eq_true rfl) (c_rwHas (q := 63) (L := K) (i : Int) (by decide) xo_63 hM.1 hM.2.1) ?_
  refine z_ifeqB 49 d_X11_echo_15 (by decide) (fun hc1 => absurd hc1 (by omega)) (fun hc1 => ?_)
  refine z_iload_n d_X11_echo_18 rfl rfl ?_
  refine z_iconst d_X11_echo_19 (by decide) ?_
  refine z_bipush d_X11_echo_20 (by decide) ?_
  refine z_cs (M1 := M_X11_isWithin) d_X11_echo_22 ls_X11_62 k_X11_isWithin [qI (n : Int), qI 2, qI 99] rfl rfl (Nat.le_of_ble_eq_true rfl) (by decide) (by decide) (Nat.le_of_ble_eq_true rfl) (c_isWithin (n : Int) 2 99) ?_
  refine z_ifeqB 49 d_X11_echo_25 (by decide) (fun hc2 => absurd hc2 (by omega)) (fun hc2 => ?_)
  refine z_iload_n d_X11_echo_28 rfl rfl ?_
  refine z_iconst d_X11_echo_29 (by decide) ?_
  refine z_sipush d_X11_echo_30 (by decide) ?_
  refine z_cs (M1 := M_X11_isWithin) d_X11_echo_33 ls_X11_62 k_X11_isWithin [qI t, qI 0, qI 999] rfl rfl (Nat.le_of_ble_eq_true rfl) (by decide) (by decide) (Nat.le_of_ble_eq_true rfl) (c_isWithin t 0 999) ?_
  refine z_ifeqB 49 d_X11_echo_36 (by decide) (fun hc3 => absurd hc3 (by omega)) (fun hc3 => ?_)
  refine z_iload d_X11_echo_39 rfl ?_
  refine z_iconst d_X11_echo_41 (by decide) ?_
  refine z_iconst d_X11_echo_42 (by decide) ?_
  refine z_cs (M1 := M_X11_isWithin) d_X11_echo_43 ls_X11_62 k_X11_isWithin [qI 0, qI 0, qI 1] rfl rfl (Nat.le_of_ble_eq_true rfl) (by decide) (by decide) (Nat.le_of_ble_eq_true rfl) (c_isWithin 0 0 1) ?_
  refine z_ifneB 53 d_X11_echo_46 (by decide) (fun hc4 => ?_) (fun hc4 => absurd hc4 (by omega))
  refine z_aload d_X11_echo_53 rfl ?_
  refine z_iload_n d_X11_echo_55 rfl rfl ?_
  refine z_iconst d_X11_echo_56 (by decide) ?_
  refine z_cv (M1 := M_X6_cell) d_X11_echo_57 lv_X11_132 k_X6_cell [qI (i : Int), qI 0] rfl rfl (xput_ob (c := (F 63)) xi_63 rfl (xsh_6 xo_63)) ⟨_, _, rfl⟩ (Nat.le_of_ble_eq_true rfl) (by decide) (by decide) (Nat.le_of_ble_eq_true rfl) (by have e9 := c_rwC (h := h) (F := F) (G := G) (q := 63) (L := K) i 0 (by decide) xo_63 hM.1 hM.2.1 (by omega) (by decide); rw [show G (63 + 1) (4 * i + 0) = p from (hM.2.2 _ (by omega)).trans hp] at e9; exact e9) ?_
  refine z_istore (ls' := [qR 2, qI (i : Int), qI (n : Int), qI t, qI 0, qR 63, qI p, qU, qU, qU]) d_X11_echo_60 (by decide) rfl ?_
  refine z_aload d_X11_echo_62 rfl ?_
  refine z_iload_n d_X11_echo_64 rfl rfl ?_
  refine z_iconst d_X11_echo_65 (by decide) ?_
  refine z_cv (M1 := M_X6_cell) d_X11_echo_66 lv_X11_132 k_X6_cell [qI (i : Int), qI 3] rfl rfl (xput_ob (c := (F 63)) xi_63 rfl (xsh_6 xo_63)) ⟨_, _, rfl⟩ (Nat.le_of_ble_eq_true rfl) (by decide) (by decide) (Nat.le_of_ble_eq_true rfl) (by have e9 := c_rwC (h := h) (F := F) (G := G) (q := 63) (L := K) i 3 (by decide) xo_63 hM.1 hM.2.1 (by omega) (by decide); rw [show G (63 + 1) (4 * i + 3) = b from (hM.2.2 _ (by omega)).trans hb] at e9; exact e9) ?_
  refine z_istore (ls' := [qR 2, qI (i : Int), qI (n : Int), qI t, qI 0, qR 63, qI p, qI b, qU, qU]) d_X11_echo_69 (by decide) rfl ?_
  refine z_iload d_X11_echo_71 rfl ?_
  refine z_iload_n d_X11_echo_73 rfl rfl ?_
  refine z_iconst d_X11_echo_74 (by decide) ?_
  refine z_isub d_X11_echo_75 (by omega) ?_
  refine z_icmp_gt 85 d_X11_echo_76 (by decide) (fun q76 => ?_) (fun q76 => ?_)
  · refine z_ldcw (n := -10000000) d_X11_echo_85 ct_X11_436 (by decide) (by decide) ?_
    exact z_iret d_X11_echo_88 rfl (qer er (qif_t q76)) eh
  · refine z_iload d_X11_echo_79 rfl ?_
    refine z_iconst d_X11_echo_81 (by decide) ?_
    refine z_icmp_ge 89 d_X11_echo_82 (by decide) (fun hc5 => ?_) (fun hc5 => absurd hc5 (by omega))
    refine z_iload_n d_X11_echo_89 rfl rfl ?_
    refine z_iconst d_X11_echo_90 (by decide) ?_
    refine z_isub d_X11_echo_91 (by omega) ?_
    refine z_iload d_X11_echo_92 rfl ?_
    refine z_imul d_X11_echo_94 (by omega) ?_
    refine z_istore (ls' := [qR 2, qI (i : Int), qI (n : Int), qI t, qI 0, qR 63, qI p, qI b, qI (((n : Int) - 1) * b), qU]) d_X11_echo_95 (by decide) rfl ?_
    refine z_iload d_X11_echo_97 rfl ?_
    refine z_iload d_X11_echo_99 rfl ?_
    refine z_imul d_X11_echo_101 (by omega) ?_
    refine z_aload d_X11_echo_102 rfl ?_
    refine z_iload_n d_X11_echo_104 rfl rfl ?_
    refine z_iconst d_X11_echo_105 (by decide) ?_
    refine z_cv (M1 := M_X6_cell) d_X11_echo_106 lv_X11_132 k_X6_cell [qI (i : Int), qI 2] rfl rfl (xput_ob (c := (F 63)) xi_63 rfl (xsh_6 xo_63)) ⟨_, _, rfl⟩ (Nat.le_of_ble_eq_true rfl) (by decide) (by decide) (Nat.le_of_ble_eq_true rfl) (by have e9 := c_rwC (h := h) (F := F) (G := G) (q := 63) (L := K) i 2 (by decide) xo_63 hM.1 hM.2.1 (by omega) (by decide); rw [show G (63 + 1) (4 * i + 2) = a from (hM.2.2 _ (by omega)).trans ha] at e9; exact e9) ?_
    refine z_iload_n d_X11_echo_109 rfl rfl ?_
    refine z_imul d_X11_echo_110 (by omega) ?_
    refine z_iadd d_X11_echo_111 (by omega) ?_
    refine z_eq rfl (qc (qi (show ((p * b) + (a * t)) = (p * b + t * a) from by rw [Int.mul_comm a t])) rfl) rfl ?_
    refine z_iconst d_X11_echo_112 (by decide) ?_
    refine z_iload d_X11_echo_113 rfl ?_
    refine z_imul d_X11_echo_115 (by omega) ?_
    refine z_cs (M1 := M_J9_floorMod_7cf53) d_X11_echo_116 ls_X11_441 k_J9_floorMod_7cf53 [qI (p * b + t * a), qI (2 * (((n : Int) - 1) * b))] rfl rfl (Nat.le_of_ble_eq_true rfl) (by decide) (by decide) (Nat.le_of_ble_eq_true rfl) (c_floorMod (p * b + t * a) (2 * (((n : Int) - 1) * b)) (by omega) (by unfold R32; omega) (by unfold R32; omega)) ?_
    refine z_istore (ls' := [qR 2, qI (i : Int), qI (n : Int), qI t, qI 0, qR 63, qI p, qI b, qI (((n : Int) - 1) * b), qI ((p * b + t * a) % (2 * (((n : Int) - 1) * b)))]) d_X11_echo_119 (by decide) rfl ?_
    refine z_iload d_X11_echo_121 rfl ?_
    refine z_iload d_X11_echo_123 rfl ?_
    suffices kJ125 : qEx M_X11_echo 140 [qR 2, qI (i : Int), qI (n : Int), qI t, qI 0, qR 63, qI p, qI b, qI (((n : Int) - 1) * b), qI ((p * b + t * a) % (2 * (((n : Int) - 1) * b)))] [qI (qif (((p * b + t * a) % (2 * (((n : Int) - 1) * b))) ≤ (((n : Int) - 1) * b)) ((p * b + t * a) % (2 * (((n : Int) - 1) * b))) ((2 * (((n : Int) - 1) * b)) - ((p * b + t * a) % (2 * (((n : Int) - 1) * b)))))] (xput h F G) r hr by
      refine z_icmp_le 138 d_X11_echo_125 (by decide) (fun hc6 => ?_) (fun hc6 => ?_)
      · refine z_iload d_X11_echo_138 rfl ?_
        exact z_eq rfl (qc (qi (qif_t hc6).symm) rfl) rfl kJ125
      · refine z_iconst d_X11_echo_128 (by decide) ?_
        refine z_iload d_X11_echo_129 rfl ?_
        refine z_imul d_X11_echo_131 (by omega) ?_
        refine z_iload d_X11_echo_132 rfl ?_
        refine z_isub d_X11_echo_134 (by omega) ?_
        refine z_goto 140 d_X11_echo_135 (by decide) ?_
        exact z_eq rfl (qc (qi (qif_f hc6).symm) rfl) rfl kJ125
    refine z_eq rfl (qc (qi (show (qif (((p * b + t * a) % (2 * (((n : Int) - 1) * b))) ≤ (((n : Int) - 1) * b)) ((p * b + t * a) % (2 * (((n : Int) - 1) * b))) ((2 * (((n : Int) - 1) * b)) - ((p * b + t * a) % (2 * (((n : Int) - 1) * b))))) = (if ((p * b + t * a) % (2 * (((n : Int) - 1) * b))) > (((n : Int) - 1) * b) then 2 * (((n : Int) - 1) * b) - ((p * b + t * a) % (2 * (((n : Int) - 1) * b))) else ((p * b + t * a) % (2 * (((n : Int) - 1) * b)))) from by by_cases z : ((p * b + t * a) % (2 * (((n : Int) - 1) * b))) ≤ (((n : Int) - 1) * b); (rw [qif_t z, if_neg (by omega)]); (rw [qif_f z, if_pos (by omega)]))) rfl) rfl ?_
    refine z_iload d_X11_echo_140 rfl ?_
    refine z_iload d_X11_echo_142 rfl ?_
    refine z_iconst d_X11_echo_144 (by decide) ?_
    refine z_icmp_ne 152 d_X11_echo_145 (by decide) (fun hc7 => ?_) (fun hc7 => absurd (by decide) hc7)
    refine z_iconst d_X11_echo_152 (by decide) ?_
    refine z_cs (M1 := M_X11_partOf) d_X11_echo_153 ls_X11_437 k_X11_partOf [qI (if ((p * b + t * a) % (2 * (((n : Int) - 1) * b))) > (((n : Int) - 1) * b) then 2 * (((n : Int) - 1) * b) - ((p * b + t * a) % (2 * (((n : Int) - 1) * b))) else ((p * b + t * a) % (2 * (((n : Int) - 1) * b)))), qI b, qI 0] rfl rfl (Nat.le_of_ble_eq_true rfl) (by decide) (by decide) (Nat.le_of_ble_eq_true rfl) (c_part1 (if ((p * b + t * a) % (2 * (((n : Int) - 1) * b))) > (((n : Int) - 1) * b) then 2 * (((n : Int) - 1) * b) - ((p * b + t * a) % (2 * (((n : Int) - 1) * b))) else ((p * b + t * a) % (2 * (((n : Int) - 1) * b)))) b v3 (by omega) (by omega)) ?_
    exact z_iret d_X11_echo_156 rfl (qer er (qif_f q76)) eh
set_option maxRecDepth 20000 in
set_option maxHeartbeats 4000000 in
theorem xc_echo1 {h : qH} {F G : Nat → Nat → Int} {K : Nat} {MK : Nat → Int} (i n : Nat) (t : Int) {p a b : Int} (hM : rwR F G 63 K MK) (hi : i < K) (hn : 2 ≤ n ∧ n ≤ 99) (ht : 0 ≤ t ∧ t ≤ 999) (hp : MK (4 * i) = p) (ha : MK (4 * i + 2) = a) (hb : MK (4 * i + 3) = b) (bp : 0 ≤ p ∧ p ≤ 99) (ba : -9 ≤ a ∧ a ≤ 9) (bb : 1 ≤ b ∧ b ≤ 9) : qEx M_X11_echo 0 [qR 2, qI (i : Int), qI (n : Int), qI t, qI 1, qU, qU, qU, qU, qU] [] (xput h F G) (some (qI (qif (p > (n : Int) - 1) (-10000000) (lowR (if ((p * b + t * a) % (2 * (((n : Int) - 1) * b))) > (((n : Int) - 1) * b) then 2 * (((n : Int) - 1) * b) - ((p * b + t * a) % (2 * (((n : Int) - 1) * b))) else ((p * b + t * a) % (2 * (((n : Int) - 1) * b)))) b 0)))) (xput h F G) := by
  refine q_gen (fun r hr er eh => ?_)
  have m1 := mulb (x := p) (y := b) 99 9 891 (by omega) (by omega) rfl
  have m2 := mulb (x := a) (y := t) 9 999 8991 (by omega) (by omega) rfl
  have m3 := mulb (x := t) (y := a) 999 9 8991 (by omega) (by omega) rfl
  have m4 := mulb (x := (n : Int) - 1) (y := b) 98 9 882 (by omega) (by omega) rfl
  have m5 : 0 < (((n : Int) - 1) * b) := Int.mul_pos (by omega) (by omega)
  have v1 := Int.emod_nonneg (p * b + t * a) (show 2 * (((n : Int) - 1) * b) ≠ 0 by omega)
  have v2 := Int.emod_lt_of_pos (p * b + t * a) (show 0 < 2 * (((n : Int) - 1) * b) by omega)
  have v3 : -100000000 ≤ (if ((p * b + t * a) % (2 * (((n : Int) - 1) * b))) > (((n : Int) - 1) * b) then 2 * (((n : Int) - 1) * b) - ((p * b + t * a) % (2 * (((n : Int) - 1) * b))) else ((p * b + t * a) % (2 * (((n : Int) - 1) * b)))) ∧ (if ((p * b + t * a) % (2 * (((n : Int) - 1) * b))) > (((n : Int) - 1) * b) then 2 * (((n : Int) - 1) * b) - ((p * b + t * a) % (2 * (((n : Int) - 1) * b))) else ((p * b + t * a) % (2 * (((n : Int) - 1) * b)))) ≤ 100000000 := by split <;> omega
  refine z_aload_n d_X11_echo_0 rfl rfl ?_
  refine z_getf (v := qR 3) d_X11_echo_1 fl_X11_12 (xput_ob (c := (F 2)) xi_2 rfl (xsh_11 xo_2)) rfl ?_
  refine z_getf (v := qR 63) d_X11_echo_4 fl_X11_426 (xput_ob (c := (F 3)) xi_3 rfl (xsh_8 xo_3)) rfl ?_
  refine z_astore (ls' := [qR 2, qI (i : Int), qI (n : Int), qI t, qI 1, qR 63, qU, qU, qU, qU]) d_X11_echo_7 (by decide) rfl ?_
  refine z_aload d_X11_echo_9 rfl ?_
  refine z_iload_n d_X11_echo_11 rfl rfl ?_
  refine z_cv (M1 := M_X6_has) d_X11_echo_12 lv_X11_435 k_X6_has [qI (i : Int)] rfl rfl (xput_ob (c := (F 63)) xi_63 rfl (xsh_6 xo_63)) ⟨_, _, rfl⟩ (Nat.le_of_ble_eq_true rfl) (by decide) (by decide) (Nat.le_of_ble_eq_true rfl) (c_rwHas (q := 63) (L := K) (i : Int) (by decide) xo_63 hM.1 hM.2.1) ?_
  refine z_ifeqB 49 d_X11_echo_15 (by decide) (fun hc1 => absurd hc1 (by omega)) (fun hc1 => ?_)
  refine z_iload_n d_X11_echo_18 rfl rfl ?_
  refine z_iconst d_X11_echo_19 (by decide) ?_
  refine z_bipush d_X11_echo_20 (by decide) ?_
  refine z_cs (M1 := M_X11_isWithin) d_X11_echo_22 ls_X11_62 k_X11_isWithin [qI (n : Int), qI 2, qI 99] rfl rfl (Nat.le_of_ble_eq_true rfl) (by decide) (by decide) (Nat.le_of_ble_eq_true rfl) (c_isWithin (n : Int) 2 99) ?_
  refine z_ifeqB 49 d_X11_echo_25 (by decide) (fun hc2 => absurd hc2 (by omega)) (fun hc2 => ?_)
  refine z_iload_n d_X11_echo_28 rfl rfl ?_
  refine z_iconst d_X11_echo_29 (by decide) ?_
  refine z_sipush d_X11_echo_30 (by decide) ?_
  refine z_cs (M1 := M_X11_isWithin) d_X11_echo_33 ls_X11_62 k_X11_isWithin [qI t, qI 0, qI 999] rfl rfl (Nat.le_of_ble_eq_true rfl) (by decide) (by decide) (Nat.le_of_ble_eq_true rfl) (c_isWithin t 0 999) ?_
  refine z_ifeqB 49 d_X11_echo_36 (by decide) (fun hc3 => absurd hc3 (by omega)) (fun hc3 => ?_)
  refine z_iload d_X11_echo_39 rfl ?_
  refine z_iconst d_X11_echo_41 (by decide) ?_
  refine z_iconst d_X11_echo_42 (by decide) ?_
  refine z_cs (M1 := M_X11_isWithin) d_X11_echo_43 ls_X11_62 k_X11_isWithin [qI 1, qI 0, qI 1] rfl rfl (Nat.le_of_ble_eq_true rfl) (by decide) (by decide) (Nat.le_of_ble_eq_true rfl) (c_isWithin 1 0 1) ?_
  refine z_ifneB 53 d_X11_echo_46 (by decide) (fun hc4 => ?_) (fun hc4 => absurd hc4 (by omega))
  refine z_aload d_X11_echo_53 rfl ?_
  refine z_iload_n d_X11_echo_55 rfl rfl ?_
  refine z_iconst d_X11_echo_56 (by decide) ?_
  refine z_cv (M1 := M_X6_cell) d_X11_echo_57 lv_X11_132 k_X6_cell [qI (i : Int), qI 0] rfl rfl (xput_ob (c := (F 63)) xi_63 rfl (xsh_6 xo_63)) ⟨_, _, rfl⟩ (Nat.le_of_ble_eq_true rfl) (by decide) (by decide) (Nat.le_of_ble_eq_true rfl) (by have e9 := c_rwC (h := h) (F := F) (G := G) (q := 63) (L := K) i 0 (by decide) xo_63 hM.1 hM.2.1 (by omega) (by decide); rw [show G (63 + 1) (4 * i + 0) = p from (hM.2.2 _ (by omega)).trans hp] at e9; exact e9) ?_
  refine z_istore (ls' := [qR 2, qI (i : Int), qI (n : Int), qI t, qI 1, qR 63, qI p, qU, qU, qU]) d_X11_echo_60 (by decide) rfl ?_
  refine z_aload d_X11_echo_62 rfl ?_
  refine z_iload_n d_X11_echo_64 rfl rfl ?_
  refine z_iconst d_X11_echo_65 (by decide) ?_
  refine z_cv (M1 := M_X6_cell) d_X11_echo_66 lv_X11_132 k_X6_cell [qI (i : Int), qI 3] rfl rfl (xput_ob (c := (F 63)) xi_63 rfl (xsh_6 xo_63)) ⟨_, _, rfl⟩ (Nat.le_of_ble_eq_true rfl) (by decide) (by decide) (Nat.le_of_ble_eq_true rfl) (by have e9 := c_rwC (h := h) (F := F) (G := G) (q := 63) (L := K) i 3 (by decide) xo_63 hM.1 hM.2.1 (by omega) (by decide); rw [show G (63 + 1) (4 * i + 3) = b from (hM.2.2 _ (by omega)).trans hb] at e9; exact e9) ?_
  refine z_istore (ls' := [qR 2, qI (i : Int), qI (n : Int), qI t, qI 1, qR 63, qI p, qI b, qU, qU]) d_X11_echo_69 (by decide) rfl ?_
  refine z_iload d_X11_echo_71 rfl ?_
  refine z_iload_n d_X11_echo_73 rfl rfl ?_
  refine z_iconst d_X11_echo_74 (by decide) ?_
  refine z_isub d_X11_echo_75 (by omega) ?_
  refine z_icmp_gt 85 d_X11_echo_76 (by decide) (fun q76 => ?_) (fun q76 => ?_)
  · refine z_ldcw (n := -10000000) d_X11_echo_85 ct_X11_436 (by decide) (by decide) ?_
    exact z_iret d_X11_echo_88 rfl (qer er (qif_t q76)) eh
  · refine z_iload d_X11_echo_79 rfl ?_
    refine z_iconst d_X11_echo_81 (by decide) ?_
    refine z_icmp_ge 89 d_X11_echo_82 (by decide) (fun hc5 => ?_) (fun hc5 => absurd hc5 (by omega))
    refine z_iload_n d_X11_echo_89 rfl rfl ?_
    refine z_iconst d_X11_echo_90 (by decide) ?_
    refine z_isub d_X11_echo_91 (by omega) ?_
    refine z_iload d_X11_echo_92 rfl ?_
    refine z_imul d_X11_echo_94 (by omega) ?_
    refine z_istore (ls' := [qR 2, qI (i : Int), qI (n : Int), qI t, qI 1, qR 63, qI p, qI b, qI (((n : Int) - 1) * b), qU]) d_X11_echo_95 (by decide) rfl ?_
    refine z_iload d_X11_echo_97 rfl ?_
    refine z_iload d_X11_echo_99 rfl ?_
    refine z_imul d_X11_echo_101 (by omega) ?_
    refine z_aload d_X11_echo_102 rfl ?_
    refine z_iload_n d_X11_echo_104 rfl rfl ?_
    refine z_iconst d_X11_echo_105 (by decide) ?_
    refine z_cv (M1 := M_X6_cell) d_X11_echo_106 lv_X11_132 k_X6_cell [qI (i : Int), qI 2] rfl rfl (xput_ob (c := (F 63)) xi_63 rfl (xsh_6 xo_63)) ⟨_, _, rfl⟩ (Nat.le_of_ble_eq_true rfl) (by decide) (by decide) (Nat.le_of_ble_eq_true rfl) (by have e9 := c_rwC (h := h) (F := F) (G := G) (q := 63) (L := K) i 2 (by decide) xo_63 hM.1 hM.2.1 (by omega) (by decide); rw [show G (63 + 1) (4 * i + 2) = a from (hM.2.2 _ (by omega)).trans ha] at e9; exact e9) ?_
    refine z_iload_n d_X11_echo_109 rfl rfl ?_
    refine z_imul d_X11_echo_110 (by omega) ?_
    refine z_iadd d_X11_echo_111 (by omega) ?_
    refine z_eq rfl (qc (qi (show ((p * b) + (a * t)) = (p * b + t * a) from by rw [Int.mul_comm a t])) rfl) rfl ?_
    refine z_iconst d_X11_echo_112 (by decide) ?_
    refine z_iload d_X11_echo_113 rfl ?_
    refine z_imul d_X11_echo_115 (by omega) ?_
    refine z_cs (M1 := M_J9_floorMod_7cf53) d_X11_echo_116 ls_X11_441 k_J9_floorMod_7cf53 [qI (p * b + t * a), qI (2 * (((n : Int) - 1) * b))] rfl rfl (Nat.le_of_ble_eq_true rfl) (by decide) (by decide) (Nat.le_of_ble_eq_true rfl) (c_floorMod (p * b + t * a) (2 * (((n : Int) - 1) * b)) (by omega) (by unfold R32; omega) (by unfold R32; omega)) ?_
    refine z_istore (ls' := [qR 2, qI (i : Int), qI (n : Int), qI t, qI 1, qR 63, qI p, qI b, qI (((n : Int) - 1) * b), qI ((p * b + t * a) % (2 * (((n : Int) - 1) * b)))]) d_X11_echo_119 (by decide) rfl ?_
    refine z_iload d_X11_echo_121 rfl ?_
    refine z_iload d_X11_echo_123 rfl ?_
    suffices kJ125 : qEx M_X11_echo 140 [qR 2, qI (i : Int), qI (n : Int), qI t, qI 1, qR 63, qI p, qI b, qI (((n : Int) - 1) * b), qI ((p * b + t * a) % (2 * (((n : Int) - 1) * b)))] [qI (qif (((p * b + t * a) % (2 * (((n : Int) - 1) * b))) ≤ (((n : Int) - 1) * b)) ((p * b + t * a) % (2 * (((n : Int) - 1) * b))) ((2 * (((n : Int) - 1) * b)) - ((p * b + t * a) % (2 * (((n : Int) - 1) * b)))))] (xput h F G) r hr by
      refine z_icmp_le 138 d_X11_echo_125 (by decide) (fun hc6 => ?_) (fun hc6 => ?_)
      · refine z_iload d_X11_echo_138 rfl ?_
        exact z_eq rfl (qc (qi (qif_t hc6).symm) rfl) rfl kJ125
      · refine z_iconst d_X11_echo_128 (by decide) ?_
        refine z_iload d_X11_echo_129 rfl ?_
        refine z_imul d_X11_echo_131 (by omega) ?_
        refine z_iload d_X11_echo_132 rfl ?_
        refine z_isub d_X11_echo_134 (by omega) ?_
        refine z_goto 140 d_X11_echo_135 (by decide) ?_
        exact z_eq rfl (qc (qi (qif_f hc6).symm) rfl) rfl kJ125
    refine z_eq rfl (qc (qi (show (qif (((p * b + t * a) % (2 * (((n : Int) - 1) * b))) ≤ (((n : Int) - 1) * b)) ((p * b + t * a) % (2 * (((n : Int) - 1) * b))) ((2 * (((n : Int) - 1) * b)) - ((p * b + t * a) % (2 * (((n : Int) - 1) * b))))) = (if ((p * b + t * a) % (2 * (((n : Int) - 1) * b))) > (((n : Int) - 1) * b) then 2 * (((n : Int) - 1) * b) - ((p * b + t * a) % (2 * (((n : Int) - 1) * b))) else ((p * b + t * a) % (2 * (((n : Int) - 1) * b)))) from by by_cases z : ((p * b + t * a) % (2 * (((n : Int) - 1) * b))) ≤ (((n : Int) - 1) * b); (rw [qif_t z, if_neg (by omega)]); (rw [qif_f z, if_pos (by omega)]))) rfl) rfl ?_
    refine z_iload d_X11_echo_140 rfl ?_
    refine z_iload d_X11_echo_142 rfl ?_
    refine z_iconst d_X11_echo_144 (by decide) ?_
    refine z_icmp_ne 152 d_X11_echo_145 (by decide) (fun hc7 => absurd hc7 (by decide)) (fun hc7 => ?_)
    refine z_iconst d_X11_echo_148 (by decide) ?_
    refine z_goto 153 d_X11_echo_149 (by decide) ?_
    refine z_cs (M1 := M_X11_partOf) d_X11_echo_153 ls_X11_437 k_X11_partOf [qI (if ((p * b + t * a) % (2 * (((n : Int) - 1) * b))) > (((n : Int) - 1) * b) then 2 * (((n : Int) - 1) * b) - ((p * b + t * a) % (2 * (((n : Int) - 1) * b))) else ((p * b + t * a) % (2 * (((n : Int) - 1) * b)))), qI b, qI 1] rfl rfl (Nat.le_of_ble_eq_true rfl) (by decide) (by decide) (Nat.le_of_ble_eq_true rfl) (c_part0 (if ((p * b + t * a) % (2 * (((n : Int) - 1) * b))) > (((n : Int) - 1) * b) then 2 * (((n : Int) - 1) * b) - ((p * b + t * a) % (2 * (((n : Int) - 1) * b))) else ((p * b + t * a) % (2 * (((n : Int) - 1) * b)))) b v3 (by omega) (by omega)) ?_
    exact z_iret d_X11_echo_156 rfl (qer er (qif_f q76)) eh
set_option maxRecDepth 20000 in
set_option maxHeartbeats 4000000 in
theorem xc_echo_no {h : qH} {F G : Nat → Nat → Int} {K : Nat} {MK : Nat → Int} (i n t what : Int) (hM : rwR F G 63 K MK) (hno : ¬ ((0 ≤ i ∧ i < K) ∧ (2 ≤ n ∧ n ≤ 99) ∧ (0 ≤ t ∧ t ≤ 999) ∧ 0 ≤ what ∧ what ≤ 1)) : qEx M_X11_echo 0 [qR 2, qI i, qI n, qI t, qI what, qU, qU, qU, qU, qU] [] (xput h F G) (some (qI (-10000000))) (xput h F G) := by
  refine q_gen (fun r hr er eh => ?_)
  refine z_aload_n d_X11_echo_0 rfl rfl ?_
  refine z_getf (v := qR 3) d_X11_echo_1 fl_X11_12 (xput_ob (c := (F 2)) xi_2 rfl (xsh_11 xo_2)) rfl ?_
  refine z_getf (v := qR 63) d_X11_echo_4 fl_X11_426 (xput_ob (c := (F 3)) xi_3 rfl (xsh_8 xo_3)) rfl ?_
  refine z_astore (ls' := [qR 2, qI i, qI n, qI t, qI what, qR 63, qU, qU, qU, qU]) d_X11_echo_7 (by decide) rfl ?_
  refine z_aload d_X11_echo_9 rfl ?_
  refine z_iload_n d_X11_echo_11 rfl rfl ?_
  refine z_cv (M1 := M_X6_has) d_X11_echo_12 lv_X11_435 k_X6_has [qI i] rfl rfl (xput_ob (c := (F 63)) xi_63 rfl (xsh_6 xo_63)) ⟨_, _, rfl⟩ (Nat.le_of_ble_eq_true rfl) (by decide) (by decide) (Nat.le_of_ble_eq_true rfl) (c_rwHas (q := 63) (L := K) i (by decide) xo_63 hM.1 hM.2.1) ?_
  refine z_ifeqB 49 d_X11_echo_15 (by decide) (fun hc1 => ?_) (fun hc1 => ?_)
  · refine z_ldcw (n := -10000000) d_X11_echo_49 ct_X11_436 (by decide) (by decide) ?_
    exact z_iret d_X11_echo_52 rfl er eh
  · refine z_iload_n d_X11_echo_18 rfl rfl ?_
    refine z_iconst d_X11_echo_19 (by decide) ?_
    refine z_bipush d_X11_echo_20 (by decide) ?_
    refine z_cs (M1 := M_X11_isWithin) d_X11_echo_22 ls_X11_62 k_X11_isWithin [qI n, qI 2, qI 99] rfl rfl (Nat.le_of_ble_eq_true rfl) (by decide) (by decide) (Nat.le_of_ble_eq_true rfl) (c_isWithin n 2 99) ?_
    refine z_ifeqB 49 d_X11_echo_25 (by decide) (fun hc2 => ?_) (fun hc2 => ?_)
    · refine z_ldcw (n := -10000000) d_X11_echo_49 ct_X11_436 (by decide) (by decide) ?_
      exact z_iret d_X11_echo_52 rfl er eh
    · refine z_iload_n d_X11_echo_28 rfl rfl ?_
      refine z_iconst d_X11_echo_29 (by decide) ?_
      refine z_sipush d_X11_echo_30 (by decide) ?_
      refine z_cs (M1 := M_X11_isWithin) d_X11_echo_33 ls_X11_62 k_X11_isWithin [qI t, qI 0, qI 999] rfl rfl (Nat.le_of_ble_eq_true rfl) (by decide) (by decide) (Nat.le_of_ble_eq_true rfl) (c_isWithin t 0 999) ?_
      refine z_ifeqB 49 d_X11_echo_36 (by decide) (fun hc3 => ?_) (fun hc3 => ?_)
      · refine z_ldcw (n := -10000000) d_X11_echo_49 ct_X11_436 (by decide) (by decide) ?_
        exact z_iret d_X11_echo_52 rfl er eh
      · refine z_iload d_X11_echo_39 rfl ?_
        refine z_iconst d_X11_echo_41 (by decide) ?_
        refine z_iconst d_X11_echo_42 (by decide) ?_
        refine z_cs (M1 := M_X11_isWithin) d_X11_echo_43 ls_X11_62 k_X11_isWithin [qI what, qI 0, qI 1] rfl rfl (Nat.le_of_ble_eq_true rfl) (by decide) (by decide) (Nat.le_of_ble_eq_true rfl) (c_isWithin what 0 1) ?_
        refine z_ifneB 53 d_X11_echo_46 (by decide) (fun hc4 => ?_) (fun hc4 => ?_)
        · exact absurd (by omega) hno
        · refine z_ldcw (n := -10000000) d_X11_echo_49 ct_X11_436 (by decide) (by decide) ?_
          exact z_iret d_X11_echo_52 rfl er eh
set_option maxRecDepth 20000 in
set_option maxHeartbeats 4000000 in
theorem xc_meets_no {h : qH} {F G : Nat → Nat → Int} {K : Nat} {MK : Nat → Int} (i j what : Int) (hM : rwR F G 63 K MK) (hno : i = j ∨ ¬ ((0 ≤ i ∧ i < K) ∧ (0 ≤ j ∧ j < K) ∧ 0 ≤ what ∧ what ≤ 3)) : qEx M_X11_meets 0 [qR 2, qI i, qI j, qI what, qU, qU, qU, qU, qU, qU, qU, qU, qU] [] (xput h F G) (some (qI (-10000000))) (xput h F G) := by
  refine q_gen (fun r hr er eh => ?_)
  refine z_aload_n d_X11_meets_0 rfl rfl ?_
  refine z_getf (v := qR 3) d_X11_meets_1 fl_X11_12 (xput_ob (c := (F 2)) xi_2 rfl (xsh_11 xo_2)) rfl ?_
  refine z_getf (v := qR 63) d_X11_meets_4 fl_X11_426 (xput_ob (c := (F 3)) xi_3 rfl (xsh_8 xo_3)) rfl ?_
  refine z_astore (ls' := [qR 2, qI i, qI j, qI what, qR 63, qU, qU, qU, qU, qU, qU, qU, qU]) d_X11_meets_7 (by decide) rfl ?_
  refine z_iload_n d_X11_meets_9 rfl rfl ?_
  refine z_iload_n d_X11_meets_10 rfl rfl ?_
  refine z_icmp_eq 41 d_X11_meets_11 (by decide) (fun hc1 => ?_) (fun hc1 => ?_)
  · refine z_ldcw (n := -10000000) d_X11_meets_41 ct_X11_436 (by decide) (by decide) ?_
    exact z_iret d_X11_meets_44 rfl er eh
  · refine z_aload d_X11_meets_14 rfl ?_
    refine z_iload_n d_X11_meets_16 rfl rfl ?_
    refine z_cv (M1 := M_X6_has) d_X11_meets_17 lv_X11_435 k_X6_has [qI i] rfl rfl (xput_ob (c := (F 63)) xi_63 rfl (xsh_6 xo_63)) ⟨_, _, rfl⟩ (Nat.le_of_ble_eq_true rfl) (by decide) (by decide) (Nat.le_of_ble_eq_true rfl) (c_rwHas (q := 63) (L := K) i (by decide) xo_63 hM.1 hM.2.1) ?_
    refine z_ifeqB 41 d_X11_meets_20 (by decide) (fun hc2 => ?_) (fun hc2 => ?_)
    · refine z_ldcw (n := -10000000) d_X11_meets_41 ct_X11_436 (by decide) (by decide) ?_
      exact z_iret d_X11_meets_44 rfl er eh
    · refine z_aload d_X11_meets_23 rfl ?_
      refine z_iload_n d_X11_meets_25 rfl rfl ?_
      refine z_cv (M1 := M_X6_has) d_X11_meets_26 lv_X11_435 k_X6_has [qI j] rfl rfl (xput_ob (c := (F 63)) xi_63 rfl (xsh_6 xo_63)) ⟨_, _, rfl⟩ (Nat.le_of_ble_eq_true rfl) (by decide) (by decide) (Nat.le_of_ble_eq_true rfl) (c_rwHas (q := 63) (L := K) j (by decide) xo_63 hM.1 hM.2.1) ?_
      refine z_ifeqB 41 d_X11_meets_29 (by decide) (fun hc3 => ?_) (fun hc3 => ?_)
      · refine z_ldcw (n := -10000000) d_X11_meets_41 ct_X11_436 (by decide) (by decide) ?_
        exact z_iret d_X11_meets_44 rfl er eh
      · refine z_iload_n d_X11_meets_32 rfl rfl ?_
        refine z_iconst d_X11_meets_33 (by decide) ?_
        refine z_iconst d_X11_meets_34 (by decide) ?_
        refine z_cs (M1 := M_X11_isWithin) d_X11_meets_35 ls_X11_62 k_X11_isWithin [qI what, qI 0, qI 3] rfl rfl (Nat.le_of_ble_eq_true rfl) (by decide) (by decide) (Nat.le_of_ble_eq_true rfl) (c_isWithin what 0 3) ?_
        refine z_ifneB 45 d_X11_meets_38 (by decide) (fun hc4 => ?_) (fun hc4 => ?_)
        · exact absurd hno (by omega)
        · refine z_ldcw (n := -10000000) d_X11_meets_41 ct_X11_436 (by decide) (by decide) ?_
          exact z_iret d_X11_meets_44 rfl er eh
set_option maxRecDepth 20000 in
set_option maxHeartbeats 4000000 in
theorem xc_lights_no {h : qH} {F G : Nat → Nat → Int} (n lt what : Int) (hno : ¬ ((1 ≤ n ∧ n ≤ 12) ∧ (0 ≤ lt ∧ lt ≤ qShl 1 n - 1) ∧ 0 ≤ what ∧ what ≤ 1)) : qEx M_X11_lights 0 [qR 2, qI n, qI lt, qI what, qU, qU, qU, qU, qU] [] (xput h F G) (some (qI (-1))) (xput h F G) := by
  refine q_gen (fun r hr er eh => ?_)
  refine z_iload_n d_X11_lights_0 rfl rfl ?_
  refine z_iconst d_X11_lights_1 (by decide) ?_
  refine z_bipush d_X11_lights_2 (by decide) ?_
  refine z_cs (M1 := M_X11_isWithin) d_X11_lights_4 ls_X11_62 k_X11_isWithin [qI n, qI 1, qI 12] rfl rfl (Nat.le_of_ble_eq_true rfl) (by decide) (by decide) (Nat.le_of_ble_eq_true rfl) (c_isWithin n 1 12) ?_
  refine z_ifeqB 32 d_X11_lights_7 (by decide) (fun hc1 => ?_) (fun hc1 => ?_)
  · refine z_iconst d_X11_lights_32 (by decide) ?_
    exact z_iret d_X11_lights_33 rfl er eh
  · refine z_iload_n d_X11_lights_10 rfl rfl ?_
    refine z_iconst d_X11_lights_11 (by decide) ?_
    refine z_iconst d_X11_lights_12 (by decide) ?_
    refine z_iload_n d_X11_lights_13 rfl rfl ?_
    refine z_ishl d_X11_lights_14 ?_
    refine z_iconst d_X11_lights_15 (by decide) ?_
    refine z_isub d_X11_lights_16 (by have := qShl_R 1 n; have e9 : 1 ≤ n → n ≤ 12 → 0 < qShl 1 n := (fun a b => by obtain ⟨z, rfl⟩ : ∃ z : Nat, n = z := ⟨n.toNat, by omega⟩; rw [q_bit (by omega)]; have := Nat.two_pow_pos z; omega); omega) ?_
    refine z_cs (M1 := M_X11_isWithin) d_X11_lights_17 ls_X11_62 k_X11_isWithin [qI lt, qI 0, qI ((qShl 1 n) - 1)] rfl rfl (Nat.le_of_ble_eq_true rfl) (by decide) (by decide) (Nat.le_of_ble_eq_true rfl) (c_isWithin lt 0 ((qShl 1 n) - 1)) ?_
    refine z_ifeqB 32 d_X11_lights_20 (by decide) (fun hc2 => ?_) (fun hc2 => ?_)
    · refine z_iconst d_X11_lights_32 (by decide) ?_
      exact z_iret d_X11_lights_33 rfl er eh
    · refine z_iload_n d_X11_lights_23 rfl rfl ?_
      refine z_iconst d_X11_lights_24 (by decide) ?_
      refine z_iconst d_X11_lights_25 (by decide) ?_
      refine z_cs (M1 := M_X11_isWithin) d_X11_lights_26 ls_X11_62 k_X11_isWithin [qI what, qI 0, qI 1] rfl rfl (Nat.le_of_ble_eq_true rfl) (by decide) (by decide) (Nat.le_of_ble_eq_true rfl) (c_isWithin what 0 1) ?_
      refine z_ifneB 34 d_X11_lights_29 (by decide) (fun hc3 => ?_) (fun hc3 => ?_)
      · exact absurd (by omega) hno
      · refine z_iconst d_X11_lights_32 (by decide) ?_
        exact z_iret d_X11_lights_33 rfl er eh
theorem lgB_4 {lt al : Int} {i n : Nat} (h : i ≤ 2 ^ n) (h2 : 2 ^ n ≤ 2 ^ 12) : lgB lt al i < 4096 := by
  have e := (lgB_bd (lt := lt) (al := al) i).2
  have h3 : i ≤ 4096 := Nat.le_trans h h2
  split at e <;> omega
set_option maxRecDepth 20000 in
set_option maxHeartbeats 4000000 in
theorem xc_lights0 {h : qH} {F G : Nat → Nat → Int} {n : Nat} (lt : Int) (hn : 1 ≤ n ∧ n ≤ 12) (hlt : 0 ≤ lt ∧ lt ≤ (((2 ^ n : Nat) : Int) - 1)) : qEx M_X11_lights 0 [qR 2, qI (n : Int), qI lt, qI 0, qU, qU, qU, qU, qU] [] (xput h F G) (some (qI (qif (lgB lt (((2 ^ n : Nat) : Int) - 1) (2 ^ n) = -1) (-1) (on12 (lgB lt (((2 ^ n : Nat) : Int) - 1) (2 ^ n)))))) (xput h F G) := by
  refine q_gen (fun r hr er eh => ?_)
  have hp2 : 2 ^ n ≤ 2 ^ 12 := Nat.pow_le_pow_right (by decide) hn.2
  have hp1 := Nat.two_pow_pos n
  have hp3 : ((2 ^ n : Nat) : Int) ≤ 4096 ∧ 0 < ((2 ^ n : Nat) : Int) := ⟨by have := Int.ofNat_le.mpr hp2; exact this, Int.ofNat_lt.mpr hp1⟩
  refine z_iload_n d_X11_lights_0 rfl rfl ?_
  refine z_iconst d_X11_lights_1 (by decide) ?_
  refine z_bipush d_X11_lights_2 (by decide) ?_
  refine z_cs (M1 := M_X11_isWithin) d_X11_lights_4 ls_X11_62 k_X11_isWithin [qI (n : Int), qI 1, qI 12] rfl rfl (Nat.le_of_ble_eq_true rfl) (by decide) (by decide) (Nat.le_of_ble_eq_true rfl) (c_isWithin (n : Int) 1 12) ?_
  refine z_ifeqB 32 d_X11_lights_7 (by decide) (fun hc1 => absurd hc1 (by omega)) (fun hc1 => ?_)
  refine z_iload_n d_X11_lights_10 rfl rfl ?_
  refine z_iconst d_X11_lights_11 (by decide) ?_
  refine z_iconst d_X11_lights_12 (by decide) ?_
  refine z_iload_n d_X11_lights_13 rfl rfl ?_
  refine z_ishl d_X11_lights_14 ?_
  refine z_eq rfl (qc (qi (show (qShl 1 (n : Int)) = (((2 ^ n) : Nat) : Int) from q_bit (by omega))) rfl) rfl ?_
  refine z_iconst d_X11_lights_15 (by decide) ?_
  refine z_isub d_X11_lights_16 (by exact ⟨by have := hp3.2; generalize ((2 ^ n : Nat) : Int) = z at *; omega, by have := hp3.1; generalize ((2 ^ n : Nat) : Int) = z at *; omega⟩) ?_
  refine z_cs (M1 := M_X11_isWithin) d_X11_lights_17 ls_X11_62 k_X11_isWithin [qI lt, qI 0, qI ((((2 ^ n) : Nat) : Int) - 1)] rfl rfl (Nat.le_of_ble_eq_true rfl) (by decide) (by decide) (Nat.le_of_ble_eq_true rfl) (c_isWithin lt 0 ((((2 ^ n) : Nat) : Int) - 1)) ?_
  refine z_ifeqB 32 d_X11_lights_20 (by decide) (fun hc2 => absurd hc2 (by exact fun z => z hlt)) (fun hc2 => ?_)
  refine z_iload_n d_X11_lights_23 rfl rfl ?_
  refine z_iconst d_X11_lights_24 (by decide) ?_
  refine z_iconst d_X11_lights_25 (by decide) ?_
  refine z_cs (M1 := M_X11_isWithin) d_X11_lights_26 ls_X11_62 k_X11_isWithin [qI 0, qI 0, qI 1] rfl rfl (Nat.le_of_ble_eq_true rfl) (by decide) (by decide) (Nat.le_of_ble_eq_true rfl) (c_isWithin 0 0 1) ?_
  refine z_ifneB 34 d_X11_lights_29 (by decide) (fun hc3 => ?_) (fun hc3 => absurd hc3 (by omega))
  refine z_iconst d_X11_lights_34 (by decide) ?_
  refine z_iload_n d_X11_lights_35 rfl rfl ?_
  refine z_ishl d_X11_lights_36 ?_
  refine z_eq rfl (qc (qi (show (qShl 1 (n : Int)) = (((2 ^ n) : Nat) : Int) from q_bit (by omega))) rfl) rfl ?_
  refine z_iconst d_X11_lights_37 (by decide) ?_
  refine z_isub d_X11_lights_38 (by exact ⟨by have := hp3.2; generalize ((2 ^ n : Nat) : Int) = z at *; omega, by have := hp3.1; generalize ((2 ^ n : Nat) : Int) = z at *; omega⟩) ?_
  refine z_istore (ls' := [qR 2, qI (n : Int), qI lt, qI 0, qI ((((2 ^ n) : Nat) : Int) - 1), qU, qU, qU, qU]) d_X11_lights_39 (by decide) rfl ?_
  refine z_iconst d_X11_lights_41 (by decide) ?_
  refine z_istore (ls' := [qR 2, qI (n : Int), qI lt, qI 0, qI ((((2 ^ n) : Nat) : Int) - 1), qI (-1), qU, qU, qU]) d_X11_lights_42 (by decide) rfl ?_
  refine z_iconst d_X11_lights_44 (by decide) ?_
  refine z_istore (ls' := [qR 2, qI (n : Int), qI lt, qI 0, qI ((((2 ^ n) : Nat) : Int) - 1), qI (-1), qI 0, qU, qU]) d_X11_lights_45 (by decide) rfl ?_
  refine z_eq (qc rfl (qc rfl (qc rfl (qc rfl (qc (qi (by omega)) (qc (qi (rfl)) (qc (qi (rfl)) (qc rfl (qc rfl rfl))))))))) rfl rfl (z_for (2 ^ n) (fun i => [qR 2, qI (n : Int), qI lt, qI 0, qI (((2 ^ n : Nat) : Int) - 1), qI (lgB lt (((2 ^ n : Nat) : Int) - 1) i), qI (i : Int), qU, qU]) (fun i => (xput h F G)) (fun i => True) trivial (fun i hii hp kki => ?_) (fun hp => ?_))
  · show qEx M_X11_lights 47 [qR 2, qI (n : Int), qI lt, qI 0, qI (((2 ^ n : Nat) : Int) - 1), qI (lgB lt (((2 ^ n : Nat) : Int) - 1) i), qI (i : Int), qU, qU] [] (xput h F G) r hr
    refine z_iload d_X11_lights_47 rfl ?_
    refine z_iload d_X11_lights_49 rfl ?_
    refine z_icmp_gt 121 d_X11_lights_51 (by decide) (fun hc4 => absurd hc4 (by have := Int.ofNat_lt.mpr hii; generalize ((2 ^ n : Nat) : Int) = z at *; omega)) (fun hc4 => ?_)
    refine z_iload d_X11_lights_54 rfl ?_
    refine z_iload d_X11_lights_56 rfl ?_
    refine z_iconst d_X11_lights_58 (by decide) ?_
    refine z_ishl d_X11_lights_59 ?_
    refine z_ixor d_X11_lights_60 ?_
    refine z_iload d_X11_lights_61 rfl ?_
    refine z_iconst d_X11_lights_63 (by decide) ?_
    refine z_ishr d_X11_lights_64 ?_
    refine z_ixor d_X11_lights_65 ?_
    refine z_iload d_X11_lights_66 rfl ?_
    refine z_iand d_X11_lights_68 ?_
    refine z_istore (ls' := [qR 2, qI (n : Int), qI lt, qI 0, qI (((2 ^ n : Nat) : Int) - 1), qI (lgB lt (((2 ^ n : Nat) : Int) - 1) i), qI (i : Int), qI (qAnd (qXor (qXor (i : Int) (qShl (i : Int) 1)) (qShr (i : Int) 1)) (((2 ^ n : Nat) : Int) - 1)), qU]) d_X11_lights_69 (by decide) rfl ?_
    refine z_iload_n d_X11_lights_71 rfl rfl ?_
    refine z_iload d_X11_lights_72 rfl ?_
    refine z_ixor d_X11_lights_74 ?_
    refine z_iload d_X11_lights_75 rfl ?_
    suffices kJ77 : qEx M_X11_lights 85 [qR 2, qI (n : Int), qI lt, qI 0, qI (((2 ^ n : Nat) : Int) - 1), qI (lgB lt (((2 ^ n : Nat) : Int) - 1) i), qI (i : Int), qI (qAnd (qXor (qXor (i : Int) (qShl (i : Int) 1)) (qShr (i : Int) 1)) (((2 ^ n : Nat) : Int) - 1)), qU] [qI (qb ((qXor lt (qAnd (qXor (qXor (i : Int) (qShl (i : Int) 1)) (qShr (i : Int) 1)) (((2 ^ n : Nat) : Int) - 1))) = (((2 ^ n : Nat) : Int) - 1)))] (xput h F G) r hr by
      refine z_icmp_ne 84 d_X11_lights_77 (by decide) (fun hc5 => ?_) (fun hc5 => ?_)
      · refine z_iconst d_X11_lights_84 (by decide) ?_
        exact z_eq rfl (qc (qi (qb_f (by omega)).symm) rfl) rfl kJ77
      · refine z_iconst d_X11_lights_80 (by decide) ?_
        refine z_goto 85 d_X11_lights_81 (by decide) ?_
        exact z_eq rfl (qc (qi (qb_t (by omega)).symm) rfl) rfl kJ77
    refine z_istore (ls' := [qR 2, qI (n : Int), qI lt, qI 0, qI (((2 ^ n : Nat) : Int) - 1), qI (lgB lt (((2 ^ n : Nat) : Int) - 1) i), qI (i : Int), qI (qAnd (qXor (qXor (i : Int) (qShl (i : Int) 1)) (qShr (i : Int) 1)) (((2 ^ n : Nat) : Int) - 1)), qI (qb ((qXor lt (qAnd (qXor (qXor (i : Int) (qShl (i : Int) 1)) (qShr (i : Int) 1)) (((2 ^ n : Nat) : Int) - 1))) = (((2 ^ n : Nat) : Int) - 1)))]) d_X11_lights_85 (by decide) rfl ?_
    refine z_iload d_X11_lights_87 rfl ?_
    refine z_ifeqB 115 d_X11_lights_89 (by decide) (fun hq89 => ?_) (fun hq89 => ?_)
    · refine z_iinc (ls' := [qR 2, qI (n : Int), qI lt, qI 0, qI (((2 ^ n : Nat) : Int) - 1), qI (lgB lt (((2 ^ n : Nat) : Int) - 1) i), qI ((i : Int) + 1), qI (qAnd (qXor (qXor (i : Int) (qShl (i : Int) 1)) (qShr (i : Int) 1)) (((2 ^ n : Nat) : Int) - 1)), qI (qb ((qXor lt (qAnd (qXor (qXor (i : Int) (qShl (i : Int) 1)) (qShr (i : Int) 1)) (((2 ^ n : Nat) : Int) - 1))) = (((2 ^ n : Nat) : Int) - 1)))]) d_X11_lights_115 rfl (by decide) (by have := Int.ofNat_lt.mpr hii; have := hp3.1; generalize ((2 ^ n : Nat) : Int) = z at *; omega) rfl ?_
      refine z_goto 47 d_X11_lights_118 (by decide) ?_
      exact z_dr (qle_k rfl (qle_k rfl (qle_k rfl (qle_k rfl (qle_k rfl (qle_k (qi ((by have e9 : lgX lt (((2 ^ n : Nat) : Int) - 1) i ≠ (((2 ^ n : Nat) : Int) - 1) := fun z => hq89 (by rw [(lg_eq hn hii)]; exact z); show _ = qif _ _ _; rw [qif_t e9]))) (qle_k (qi (by omega)) (qle_d (qle_d qle_n))))))))) rfl rfl (kki trivial)
    · refine z_iload d_X11_lights_92 rfl ?_
      refine z_iconst d_X11_lights_94 (by decide) ?_
      refine z_icmp_eq 111 d_X11_lights_95 (by decide) (fun hq95 => ?_) (fun hq95 => ?_)
      · refine z_iload d_X11_lights_111 rfl ?_
        refine z_istore (ls' := [qR 2, qI (n : Int), qI lt, qI 0, qI (((2 ^ n : Nat) : Int) - 1), qI (i : Int), qI (i : Int), qI (qAnd (qXor (qXor (i : Int) (qShl (i : Int) 1)) (qShr (i : Int) 1)) (((2 ^ n : Nat) : Int) - 1)), qI (qb ((qXor lt (qAnd (qXor (qXor (i : Int) (qShl (i : Int) 1)) (qShr (i : Int) 1)) (((2 ^ n : Nat) : Int) - 1))) = (((2 ^ n : Nat) : Int) - 1)))]) d_X11_lights_113 (by decide) rfl ?_
        refine z_iinc (ls' := [qR 2, qI (n : Int), qI lt, qI 0, qI (((2 ^ n : Nat) : Int) - 1), qI (i : Int), qI ((i : Int) + 1), qI (qAnd (qXor (qXor (i : Int) (qShl (i : Int) 1)) (qShr (i : Int) 1)) (((2 ^ n : Nat) : Int) - 1)), qI (qb ((qXor lt (qAnd (qXor (qXor (i : Int) (qShl (i : Int) 1)) (qShr (i : Int) 1)) (((2 ^ n : Nat) : Int) - 1))) = (((2 ^ n : Nat) : Int) - 1)))]) d_X11_lights_115 rfl (by decide) (by have := Int.ofNat_lt.mpr hii; have := hp3.1; generalize ((2 ^ n : Nat) : Int) = z at *; omega) rfl ?_
        refine z_goto 47 d_X11_lights_118 (by decide) ?_
        exact z_dr (qle_k rfl (qle_k rfl (qle_k rfl (qle_k rfl (qle_k rfl (qle_k (qi ((by have e9 : lgX lt (((2 ^ n : Nat) : Int) - 1) i = (((2 ^ n : Nat) : Int) - 1) := (by rw [← (lg_eq hn hii)]; exact hq89); show _ = qif _ _ _; rw [qif_f (fun z => z e9), qif_t hq95]))) (qle_k (qi (by omega)) (qle_d (qle_d qle_n))))))))) rfl rfl (kki trivial)
      · refine z_iload d_X11_lights_98 rfl ?_
        refine z_cs (M1 := M_J6_bitCount_0f7a4) d_X11_lights_100 ls_X11_357 k_J6_bitCount_0f7a4 [qI (i : Int)] rfl rfl (Nat.le_of_ble_eq_true rfl) (by decide) (by decide) (Nat.le_of_ble_eq_true rfl) (by have e9 := c_bits (h := (xput h F G)) (i : Int); rw [bc12 (by omega) (by have := Int.ofNat_lt.mpr hii; have := hp3.1; generalize ((2 ^ n : Nat) : Int) = z at *; omega)] at e9; exact e9) ?_
        refine z_iload d_X11_lights_103 rfl ?_
        refine z_cs (M1 := M_J6_bitCount_0f7a4) d_X11_lights_105 ls_X11_357 k_J6_bitCount_0f7a4 [qI (lgB lt (((2 ^ n : Nat) : Int) - 1) i)] rfl rfl (Nat.le_of_ble_eq_true rfl) (by decide) (by decide) (Nat.le_of_ble_eq_true rfl) (by have e9 := c_bits (h := (xput h F G)) (lgB lt (((2 ^ n : Nat) : Int) - 1) i); rw [bc12 (by have e8 := (lgB_bd (lt := lt) (al := (((2 ^ n : Nat) : Int) - 1)) i).1; have := hq95; generalize lgB lt (((2 ^ n : Nat) : Int) - 1) i = z at *; omega) (lgB_4 (Nat.le_of_lt hii) hp2)] at e9; exact e9) ?_
        refine z_icmp_ge 115 d_X11_lights_108 (by decide) (fun hq108 => ?_) (fun hq108 => ?_)
        · refine z_iinc (ls' := [qR 2, qI (n : Int), qI lt, qI 0, qI (((2 ^ n : Nat) : Int) - 1), qI (lgB lt (((2 ^ n : Nat) : Int) - 1) i), qI ((i : Int) + 1), qI (qAnd (qXor (qXor (i : Int) (qShl (i : Int) 1)) (qShr (i : Int) 1)) (((2 ^ n : Nat) : Int) - 1)), qI (qb ((qXor lt (qAnd (qXor (qXor (i : Int) (qShl (i : Int) 1)) (qShr (i : Int) 1)) (((2 ^ n : Nat) : Int) - 1))) = (((2 ^ n : Nat) : Int) - 1)))]) d_X11_lights_115 rfl (by decide) (by have := Int.ofNat_lt.mpr hii; have := hp3.1; generalize ((2 ^ n : Nat) : Int) = z at *; omega) rfl ?_
          refine z_goto 47 d_X11_lights_118 (by decide) ?_
          exact z_dr (qle_k rfl (qle_k rfl (qle_k rfl (qle_k rfl (qle_k rfl (qle_k (qi ((by have e9 : lgX lt (((2 ^ n : Nat) : Int) - 1) i = (((2 ^ n : Nat) : Int) - 1) := (by rw [← (lg_eq hn hii)]; exact hq89); show _ = qif _ _ _; rw [qif_f (fun z => z e9), qif_f hq95, qif_t hq108]))) (qle_k (qi (by omega)) (qle_d (qle_d qle_n))))))))) rfl rfl (kki trivial)
        · refine z_iload d_X11_lights_111 rfl ?_
          refine z_istore (ls' := [qR 2, qI (n : Int), qI lt, qI 0, qI (((2 ^ n : Nat) : Int) - 1), qI (i : Int), qI (i : Int), qI (qAnd (qXor (qXor (i : Int) (qShl (i : Int) 1)) (qShr (i : Int) 1)) (((2 ^ n : Nat) : Int) - 1)), qI (qb ((qXor lt (qAnd (qXor (qXor (i : Int) (qShl (i : Int) 1)) (qShr (i : Int) 1)) (((2 ^ n : Nat) : Int) - 1))) = (((2 ^ n : Nat) : Int) - 1)))]) d_X11_lights_113 (by decide) rfl ?_
          refine z_iinc (ls' := [qR 2, qI (n : Int), qI lt, qI 0, qI (((2 ^ n : Nat) : Int) - 1), qI (i : Int), qI ((i : Int) + 1), qI (qAnd (qXor (qXor (i : Int) (qShl (i : Int) 1)) (qShr (i : Int) 1)) (((2 ^ n : Nat) : Int) - 1)), qI (qb ((qXor lt (qAnd (qXor (qXor (i : Int) (qShl (i : Int) 1)) (qShr (i : Int) 1)) (((2 ^ n : Nat) : Int) - 1))) = (((2 ^ n : Nat) : Int) - 1)))]) d_X11_lights_115 rfl (by decide) (by have := Int.ofNat_lt.mpr hii; have := hp3.1; generalize ((2 ^ n : Nat) : Int) = z at *; omega) rfl ?_
          refine z_goto 47 d_X11_lights_118 (by decide) ?_
          exact z_dr (qle_k rfl (qle_k rfl (qle_k rfl (qle_k rfl (qle_k rfl (qle_k (qi ((by have e9 : lgX lt (((2 ^ n : Nat) : Int) - 1) i = (((2 ^ n : Nat) : Int) - 1) := (by rw [← (lg_eq hn hii)]; exact hq89); show _ = qif _ _ _; rw [qif_f (fun z => z e9), qif_f hq95, qif_f hq108]))) (qle_k (qi (by omega)) (qle_d (qle_d qle_n))))))))) rfl rfl (kki trivial)
  · show qEx M_X11_lights 47 [qR 2, qI (n : Int), qI lt, qI 0, qI (((2 ^ n : Nat) : Int) - 1), qI (lgB lt (((2 ^ n : Nat) : Int) - 1) (2 ^ n)), qI (((2 ^ n) : Nat) : Int), qU, qU] [] (xput h F G) r hr
    refine z_iload d_X11_lights_47 rfl ?_
    refine z_iload d_X11_lights_49 rfl ?_
    refine z_icmp_gt 121 d_X11_lights_51 (by decide) (fun hc6 => ?_) (fun hc6 => absurd hc6 (by generalize ((2 ^ n : Nat) : Int) = z at *; omega))
    refine z_iload_n d_X11_lights_121 rfl rfl ?_
    refine z_if_ne 139 d_X11_lights_122 (by decide) (fun hc7 => absurd hc7 (by decide)) (fun hc7 => ?_)
    refine z_iload d_X11_lights_125 rfl ?_
    refine z_iconst d_X11_lights_127 (by decide) ?_
    refine z_icmp_eq 139 d_X11_lights_128 (by decide) (fun hq128 => ?_) (fun hq128 => ?_)
    · refine z_iload d_X11_lights_139 rfl ?_
      exact z_iret d_X11_lights_141 rfl (qer er (by rw [qif_t hq128, hq128])) eh
    · refine z_iload d_X11_lights_131 rfl ?_
      refine z_cs (M1 := M_J6_bitCount_0f7a4) d_X11_lights_133 ls_X11_357 k_J6_bitCount_0f7a4 [qI (lgB lt (((2 ^ n : Nat) : Int) - 1) (2 ^ n))] rfl rfl (Nat.le_of_ble_eq_true rfl) (by decide) (by decide) (Nat.le_of_ble_eq_true rfl) (by have e9 := c_bits (h := (xput h F G)) (lgB lt (((2 ^ n : Nat) : Int) - 1) (2 ^ n)); rw [bc12 (by have e8 := (lgB_bd (lt := lt) (al := (((2 ^ n : Nat) : Int) - 1)) (2 ^ n)).1; have := hq128; generalize lgB lt (((2 ^ n : Nat) : Int) - 1) (2 ^ n) = z at *; omega) (lgB_4 (Nat.le_refl _) hp2)] at e9; exact e9) ?_
      refine z_goto 141 d_X11_lights_136 (by decide) ?_
      exact z_iret d_X11_lights_141 rfl (qer er (qif_f hq128)) eh
set_option maxRecDepth 20000 in
set_option maxHeartbeats 4000000 in
theorem xc_lights1 {h : qH} {F G : Nat → Nat → Int} {n : Nat} (lt : Int) (hn : 1 ≤ n ∧ n ≤ 12) (hlt : 0 ≤ lt ∧ lt ≤ (((2 ^ n : Nat) : Int) - 1)) : qEx M_X11_lights 0 [qR 2, qI (n : Int), qI lt, qI 1, qU, qU, qU, qU, qU] [] (xput h F G) (some (qI (lgB lt (((2 ^ n : Nat) : Int) - 1) (2 ^ n)))) (xput h F G) := by
  refine q_gen (fun r hr er eh => ?_)
  have hp2 : 2 ^ n ≤ 2 ^ 12 := Nat.pow_le_pow_right (by decide) hn.2
  have hp1 := Nat.two_pow_pos n
  have hp3 : ((2 ^ n : Nat) : Int) ≤ 4096 ∧ 0 < ((2 ^ n : Nat) : Int) := ⟨by have := Int.ofNat_le.mpr hp2; exact this, Int.ofNat_lt.mpr hp1⟩
  refine z_iload_n d_X11_lights_0 rfl rfl ?_
  refine z_iconst d_X11_lights_1 (by decide) ?_
  refine z_bipush d_X11_lights_2 (by decide) ?_
  refine z_cs (M1 := M_X11_isWithin) d_X11_lights_4 ls_X11_62 k_X11_isWithin [qI (n : Int), qI 1, qI 12] rfl rfl (Nat.le_of_ble_eq_true rfl) (by decide) (by decide) (Nat.le_of_ble_eq_true rfl) (c_isWithin (n : Int) 1 12) ?_
  refine z_ifeqB 32 d_X11_lights_7 (by decide) (fun hc1 => absurd hc1 (by omega)) (fun hc1 => ?_)
  refine z_iload_n d_X11_lights_10 rfl rfl ?_
  refine z_iconst d_X11_lights_11 (by decide) ?_
  refine z_iconst d_X11_lights_12 (by decide) ?_
  refine z_iload_n d_X11_lights_13 rfl rfl ?_
  refine z_ishl d_X11_lights_14 ?_
  refine z_eq rfl (qc (qi (show (qShl 1 (n : Int)) = (((2 ^ n) : Nat) : Int) from q_bit (by omega))) rfl) rfl ?_
  refine z_iconst d_X11_lights_15 (by decide) ?_
  refine z_isub d_X11_lights_16 (by exact ⟨by have := hp3.2; generalize ((2 ^ n : Nat) : Int) = z at *; omega, by have := hp3.1; generalize ((2 ^ n : Nat) : Int) = z at *; omega⟩) ?_
  refine z_cs (M1 := M_X11_isWithin) d_X11_lights_17 ls_X11_62 k_X11_isWithin [qI lt, qI 0, qI ((((2 ^ n) : Nat) : Int) - 1)] rfl rfl (Nat.le_of_ble_eq_true rfl) (by decide) (by decide) (Nat.le_of_ble_eq_true rfl) (c_isWithin lt 0 ((((2 ^ n) : Nat) : Int) - 1)) ?_
  refine z_ifeqB 32 d_X11_lights_20 (by decide) (fun hc2 => absurd hc2 (by exact fun z => z hlt)) (fun hc2 => ?_)
  refine z_iload_n d_X11_lights_23 rfl rfl ?_
  refine z_iconst d_X11_lights_24 (by decide) ?_
  refine z_iconst d_X11_lights_25 (by decide) ?_
  refine z_cs (M1 := M_X11_isWithin) d_X11_lights_26 ls_X11_62 k_X11_isWithin [qI 1, qI 0, qI 1] rfl rfl (Nat.le_of_ble_eq_true rfl) (by decide) (by decide) (Nat.le_of_ble_eq_true rfl) (c_isWithin 1 0 1) ?_
  refine z_ifneB 34 d_X11_lights_29 (by decide) (fun hc3 => ?_) (fun hc3 => absurd hc3 (by omega))
  refine z_iconst d_X11_lights_34 (by decide) ?_
  refine z_iload_n d_X11_lights_35 rfl rfl ?_
  refine z_ishl d_X11_lights_36 ?_
  refine z_eq rfl (qc (qi (show (qShl 1 (n : Int)) = (((2 ^ n) : Nat) : Int) from q_bit (by omega))) rfl) rfl ?_
  refine z_iconst d_X11_lights_37 (by decide) ?_
  refine z_isub d_X11_lights_38 (by exact ⟨by have := hp3.2; generalize ((2 ^ n : Nat) : Int) = z at *; omega, by have := hp3.1; generalize ((2 ^ n : Nat) : Int) = z at *; omega⟩) ?_
  refine z_istore (ls' := [qR 2, qI (n : Int), qI lt, qI 1, qI ((((2 ^ n) : Nat) : Int) - 1), qU, qU, qU, qU]) d_X11_lights_39 (by decide) rfl ?_
  refine z_iconst d_X11_lights_41 (by decide) ?_
  refine z_istore (ls' := [qR 2, qI (n : Int), qI lt, qI 1, qI ((((2 ^ n) : Nat) : Int) - 1), qI (-1), qU, qU, qU]) d_X11_lights_42 (by decide) rfl ?_
  refine z_iconst d_X11_lights_44 (by decide) ?_
  refine z_istore (ls' := [qR 2, qI (n : Int), qI lt, qI 1, qI ((((2 ^ n) : Nat) : Int) - 1), qI (-1), qI 0, qU, qU]) d_X11_lights_45 (by decide) rfl ?_
  refine z_eq (qc rfl (qc rfl (qc rfl (qc rfl (qc (qi (by omega)) (qc (qi (rfl)) (qc (qi (rfl)) (qc rfl (qc rfl rfl))))))))) rfl rfl (z_for (2 ^ n) (fun i => [qR 2, qI (n : Int), qI lt, qI 1, qI (((2 ^ n : Nat) : Int) - 1), qI (lgB lt (((2 ^ n : Nat) : Int) - 1) i), qI (i : Int), qU, qU]) (fun i => (xput h F G)) (fun i => True) trivial (fun i hii hp kki => ?_) (fun hp => ?_))
  · show qEx M_X11_lights 47 [qR 2, qI (n : Int), qI lt, qI 1, qI (((2 ^ n : Nat) : Int) - 1), qI (lgB lt (((2 ^ n : Nat) : Int) - 1) i), qI (i : Int), qU, qU] [] (xput h F G) r hr
    refine z_iload d_X11_lights_47 rfl ?_
    refine z_iload d_X11_lights_49 rfl ?_
    refine z_icmp_gt 121 d_X11_lights_51 (by decide) (fun hc4 => absurd hc4 (by have := Int.ofNat_lt.mpr hii; generalize ((2 ^ n : Nat) : Int) = z at *; omega)) (fun hc4 => ?_)
    refine z_iload d_X11_lights_54 rfl ?_
    refine z_iload d_X11_lights_56 rfl ?_
    refine z_iconst d_X11_lights_58 (by decide) ?_
    refine z_ishl d_X11_lights_59 ?_
    refine z_ixor d_X11_lights_60 ?_
    refine z_iload d_X11_lights_61 rfl ?_
    refine z_iconst d_X11_lights_63 (by decide) ?_
    refine z_ishr d_X11_lights_64 ?_
    refine z_ixor d_X11_lights_65 ?_
    refine z_iload d_X11_lights_66 rfl ?_
    refine z_iand d_X11_lights_68 ?_
    refine z_istore (ls' := [qR 2, qI (n : Int), qI lt, qI 1, qI (((2 ^ n : Nat) : Int) - 1), qI (lgB lt (((2 ^ n : Nat) : Int) - 1) i), qI (i : Int), qI (qAnd (qXor (qXor (i : Int) (qShl (i : Int) 1)) (qShr (i : Int) 1)) (((2 ^ n : Nat) : Int) - 1)), qU]) d_X11_lights_69 (by decide) rfl ?_
    refine z_iload_n d_X11_lights_71 rfl rfl ?_
    refine z_iload d_X11_lights_72 rfl ?_
    refine z_ixor d_X11_lights_74 ?_
    refine z_iload d_X11_lights_75 rfl ?_
    suffices kJ77 : qEx M_X11_lights 85 [qR 2, qI (n : Int), qI lt, qI 1, qI (((2 ^ n : Nat) : Int) - 1), qI (lgB lt (((2 ^ n : Nat) : Int) - 1) i), qI (i : Int), qI (qAnd (qXor (qXor (i : Int) (qShl (i : Int) 1)) (qShr (i : Int) 1)) (((2 ^ n : Nat) : Int) - 1)), qU] [qI (qb ((qXor lt (qAnd (qXor (qXor (i : Int) (qShl (i : Int) 1)) (qShr (i : Int) 1)) (((2 ^ n : Nat) : Int) - 1))) = (((2 ^ n : Nat) : Int) - 1)))] (xput h F G) r hr by
      refine z_icmp_ne 84 d_X11_lights_77 (by decide) (fun hc5 => ?_) (fun hc5 => ?_)
      · refine z_iconst d_X11_lights_84 (by decide) ?_
        exact z_eq rfl (qc (qi (qb_f (by omega)).symm) rfl) rfl kJ77
      · refine z_iconst d_X11_lights_80 (by decide) ?_
        refine z_goto 85 d_X11_lights_81 (by decide) ?_
        exact z_eq rfl (qc (qi (qb_t (by omega)).symm) rfl) rfl kJ77
    refine z_istore (ls' := [qR 2, qI (n : Int), qI lt, qI 1, qI (((2 ^ n : Nat) : Int) - 1), qI (lgB lt (((2 ^ n : Nat) : Int) - 1) i), qI (i : Int), qI (qAnd (qXor (qXor (i : Int) (qShl (i : Int) 1)) (qShr (i : Int) 1)) (((2 ^ n : Nat) : Int) - 1)), qI (qb ((qXor lt (qAnd (qXor (qXor (i : Int) (qShl (i : Int) 1)) (qShr (i : Int) 1)) (((2 ^ n : Nat) : Int) - 1))) = (((2 ^ n : Nat) : Int) - 1)))]) d_X11_lights_85 (by decide) rfl ?_
    refine z_iload d_X11_lights_87 rfl ?_
    refine z_ifeqB 115 d_X11_lights_89 (by decide) (fun hq89 => ?_) (fun hq89 => ?_)
    · refine z_iinc (ls' := [qR 2, qI (n : Int), qI lt, qI 1, qI (((2 ^ n : Nat) : Int) - 1), qI (lgB lt (((2 ^ n : Nat) : Int) - 1) i), qI ((i : Int) + 1), qI (qAnd (qXor (qXor (i : Int) (qShl (i : Int) 1)) (qShr (i : Int) 1)) (((2 ^ n : Nat) : Int) - 1)), qI (qb ((qXor lt (qAnd (qXor (qXor (i : Int) (qShl (i : Int) 1)) (qShr (i : Int) 1)) (((2 ^ n : Nat) : Int) - 1))) = (((2 ^ n : Nat) : Int) - 1)))]) d_X11_lights_115 rfl (by decide) (by have := Int.ofNat_lt.mpr hii; have := hp3.1; generalize ((2 ^ n : Nat) : Int) = z at *; omega) rfl ?_
      refine z_goto 47 d_X11_lights_118 (by decide) ?_
      exact z_dr (qle_k rfl (qle_k rfl (qle_k rfl (qle_k rfl (qle_k rfl (qle_k (qi ((by have e9 : lgX lt (((2 ^ n : Nat) : Int) - 1) i ≠ (((2 ^ n : Nat) : Int) - 1) := fun z => hq89 (by rw [(lg_eq hn hii)]; exact z); show _ = qif _ _ _; rw [qif_t e9]))) (qle_k (qi (by omega)) (qle_d (qle_d qle_n))))))))) rfl rfl (kki trivial)
    · refine z_iload d_X11_lights_92 rfl ?_
      refine z_iconst d_X11_lights_94 (by decide) ?_
      refine z_icmp_eq 111 d_X11_lights_95 (by decide) (fun hq95 => ?_) (fun hq95 => ?_)
      · refine z_iload d_X11_lights_111 rfl ?_
        refine z_istore (ls' := [qR 2, qI (n : Int), qI lt, qI 1, qI (((2 ^ n : Nat) : Int) - 1), qI (i : Int), qI (i : Int), qI (qAnd (qXor (qXor (i : Int) (qShl (i : Int) 1)) (qShr (i : Int) 1)) (((2 ^ n : Nat) : Int) - 1)), qI (qb ((qXor lt (qAnd (qXor (qXor (i : Int) (qShl (i : Int) 1)) (qShr (i : Int) 1)) (((2 ^ n : Nat) : Int) - 1))) = (((2 ^ n : Nat) : Int) - 1)))]) d_X11_lights_113 (by decide) rfl ?_
        refine z_iinc (ls' := [qR 2, qI (n : Int), qI lt, qI 1, qI (((2 ^ n : Nat) : Int) - 1), qI (i : Int), qI ((i : Int) + 1), qI (qAnd (qXor (qXor (i : Int) (qShl (i : Int) 1)) (qShr (i : Int) 1)) (((2 ^ n : Nat) : Int) - 1)), qI (qb ((qXor lt (qAnd (qXor (qXor (i : Int) (qShl (i : Int) 1)) (qShr (i : Int) 1)) (((2 ^ n : Nat) : Int) - 1))) = (((2 ^ n : Nat) : Int) - 1)))]) d_X11_lights_115 rfl (by decide) (by have := Int.ofNat_lt.mpr hii; have := hp3.1; generalize ((2 ^ n : Nat) : Int) = z at *; omega) rfl ?_
        refine z_goto 47 d_X11_lights_118 (by decide) ?_
        exact z_dr (qle_k rfl (qle_k rfl (qle_k rfl (qle_k rfl (qle_k rfl (qle_k (qi ((by have e9 : lgX lt (((2 ^ n : Nat) : Int) - 1) i = (((2 ^ n : Nat) : Int) - 1) := (by rw [← (lg_eq hn hii)]; exact hq89); show _ = qif _ _ _; rw [qif_f (fun z => z e9), qif_t hq95]))) (qle_k (qi (by omega)) (qle_d (qle_d qle_n))))))))) rfl rfl (kki trivial)
      · refine z_iload d_X11_lights_98 rfl ?_
        refine z_cs (M1 := M_J6_bitCount_0f7a4) d_X11_lights_100 ls_X11_357 k_J6_bitCount_0f7a4 [qI (i : Int)] rfl rfl (Nat.le_of_ble_eq_true rfl) (by decide) (by decide) (Nat.le_of_ble_eq_true rfl) (by have e9 := c_bits (h := (xput h F G)) (i : Int); rw [bc12 (by omega) (by have := Int.ofNat_lt.mpr hii; have := hp3.1; generalize ((2 ^ n : Nat) : Int) = z at *; omega)] at e9; exact e9) ?_
        refine z_iload d_X11_lights_103 rfl ?_
        refine z_cs (M1 := M_J6_bitCount_0f7a4) d_X11_lights_105 ls_X11_357 k_J6_bitCount_0f7a4 [qI (lgB lt (((2 ^ n : Nat) : Int) - 1) i)] rfl rfl (Nat.le_of_ble_eq_true rfl) (by decide) (by decide) (Nat.le_of_ble_eq_true rfl) (by have e9 := c_bits (h := (xput h F G)) (lgB lt (((2 ^ n : Nat) : Int) - 1) i); rw [bc12 (by have e8 := (lgB_bd (lt := lt) (al := (((2 ^ n : Nat) : Int) - 1)) i).1; have := hq95; generalize lgB lt (((2 ^ n : Nat) : Int) - 1) i = z at *; omega) (lgB_4 (Nat.le_of_lt hii) hp2)] at e9; exact e9) ?_
        refine z_icmp_ge 115 d_X11_lights_108 (by decide) (fun hq108 => ?_) (fun hq108 => ?_)
        · refine z_iinc (ls' := [qR 2, qI (n : Int), qI lt, qI 1, qI (((2 ^ n : Nat) : Int) - 1), qI (lgB lt (((2 ^ n : Nat) : Int) - 1) i), qI ((i : Int) + 1), qI (qAnd (qXor (qXor (i : Int) (qShl (i : Int) 1)) (qShr (i : Int) 1)) (((2 ^ n : Nat) : Int) - 1)), qI (qb ((qXor lt (qAnd (qXor (qXor (i : Int) (qShl (i : Int) 1)) (qShr (i : Int) 1)) (((2 ^ n : Nat) : Int) - 1))) = (((2 ^ n : Nat) : Int) - 1)))]) d_X11_lights_115 rfl (by decide) (by have := Int.ofNat_lt.mpr hii; have := hp3.1; generalize ((2 ^ n : Nat) : Int) = z at *; omega) rfl ?_
          refine z_goto 47 d_X11_lights_118 (by decide) ?_
          exact z_dr (qle_k rfl (qle_k rfl (qle_k rfl (qle_k rfl (qle_k rfl (qle_k (qi ((by have e9 : lgX lt (((2 ^ n : Nat) : Int) - 1) i = (((2 ^ n : Nat) : Int) - 1) := (by rw [← (lg_eq hn hii)]; exact hq89); show _ = qif _ _ _; rw [qif_f (fun z => z e9), qif_f hq95, qif_t hq108]))) (qle_k (qi (by omega)) (qle_d (qle_d qle_n))))))))) rfl rfl (kki trivial)
        · refine z_iload d_X11_lights_111 rfl ?_
          refine z_istore (ls' := [qR 2, qI (n : Int), qI lt, qI 1, qI (((2 ^ n : Nat) : Int) - 1), qI (i : Int), qI (i : Int), qI (qAnd (qXor (qXor (i : Int) (qShl (i : Int) 1)) (qShr (i : Int) 1)) (((2 ^ n : Nat) : Int) - 1)), qI (qb ((qXor lt (qAnd (qXor (qXor (i : Int) (qShl (i : Int) 1)) (qShr (i : Int) 1)) (((2 ^ n : Nat) : Int) - 1))) = (((2 ^ n : Nat) : Int) - 1)))]) d_X11_lights_113 (by decide) rfl ?_
          refine z_iinc (ls' := [qR 2, qI (n : Int), qI lt, qI 1, qI (((2 ^ n : Nat) : Int) - 1), qI (i : Int), qI ((i : Int) + 1), qI (qAnd (qXor (qXor (i : Int) (qShl (i : Int) 1)) (qShr (i : Int) 1)) (((2 ^ n : Nat) : Int) - 1)), qI (qb ((qXor lt (qAnd (qXor (qXor (i : Int) (qShl (i : Int) 1)) (qShr (i : Int) 1)) (((2 ^ n : Nat) : Int) - 1))) = (((2 ^ n : Nat) : Int) - 1)))]) d_X11_lights_115 rfl (by decide) (by have := Int.ofNat_lt.mpr hii; have := hp3.1; generalize ((2 ^ n : Nat) : Int) = z at *; omega) rfl ?_
          refine z_goto 47 d_X11_lights_118 (by decide) ?_
          exact z_dr (qle_k rfl (qle_k rfl (qle_k rfl (qle_k rfl (qle_k rfl (qle_k (qi ((by have e9 : lgX lt (((2 ^ n : Nat) : Int) - 1) i = (((2 ^ n : Nat) : Int) - 1) := (by rw [← (lg_eq hn hii)]; exact hq89); show _ = qif _ _ _; rw [qif_f (fun z => z e9), qif_f hq95, qif_f hq108]))) (qle_k (qi (by omega)) (qle_d (qle_d qle_n))))))))) rfl rfl (kki trivial)
  · show qEx M_X11_lights 47 [qR 2, qI (n : Int), qI lt, qI 1, qI (((2 ^ n : Nat) : Int) - 1), qI (lgB lt (((2 ^ n : Nat) : Int) - 1) (2 ^ n)), qI (((2 ^ n) : Nat) : Int), qU, qU] [] (xput h F G) r hr
    refine z_iload d_X11_lights_47 rfl ?_
    refine z_iload d_X11_lights_49 rfl ?_
    refine z_icmp_gt 121 d_X11_lights_51 (by decide) (fun hc6 => ?_) (fun hc6 => absurd hc6 (by generalize ((2 ^ n : Nat) : Int) = z at *; omega))
    refine z_iload_n d_X11_lights_121 rfl rfl ?_
    refine z_if_ne 139 d_X11_lights_122 (by decide) (fun hc7 => ?_) (fun hc7 => absurd (by decide) hc7)
    refine z_iload d_X11_lights_139 rfl ?_
    exact z_iret d_X11_lights_141 rfl er eh
set_option maxRecDepth 20000 in
set_option maxHeartbeats 4000000 in
theorem xc_unlike0 {h : qH} {F G : Nat → Nat → Int} {p q : Nat} {R C : Nat → Int} (hp : p < 4) (hq : q < 4) (hR : bkR F G 4 R C) : qEx M_X11_unlike 0 [qR 2, qI (p : Int), qI (q : Int), qI 0, qU, qU, qU, qU, qU, qU, qU, qU] [] (xput h F G) (some (qI (cnt (upP R C p q) 567))) (xput h F G) := by
  refine q_gen (fun r hr er eh => ?_)
  refine z_iload_n d_X11_unlike_0 rfl rfl ?_
  refine z_iconst d_X11_unlike_1 (by decide) ?_
  refine z_iconst d_X11_unlike_2 (by decide) ?_
  refine z_cs (M1 := M_X11_isWithin) d_X11_unlike_3 ls_X11_62 k_X11_isWithin [qI (p : Int), qI 0, qI 3] rfl rfl (Nat.le_of_ble_eq_true rfl) (by decide) (by decide) (Nat.le_of_ble_eq_true rfl) (c_isWithin (p : Int) 0 3) ?_
  refine z_ifeqB 27 d_X11_unlike_6 (by decide) (fun hc1 => absurd hc1 (by omega)) (fun hc1 => ?_)
  refine z_iload_n d_X11_unlike_9 rfl rfl ?_
  refine z_iconst d_X11_unlike_10 (by decide) ?_
  refine z_iconst d_X11_unlike_11 (by decide) ?_
  refine z_cs (M1 := M_X11_isWithin) d_X11_unlike_12 ls_X11_62 k_X11_isWithin [qI (q : Int), qI 0, qI 3] rfl rfl (Nat.le_of_ble_eq_true rfl) (by decide) (by decide) (Nat.le_of_ble_eq_true rfl) (c_isWithin (q : Int) 0 3) ?_
  refine z_ifeqB 27 d_X11_unlike_15 (by decide) (fun hc2 => absurd hc2 (by omega)) (fun hc2 => ?_)
  refine z_iload_n d_X11_unlike_18 rfl rfl ?_
  refine z_iconst d_X11_unlike_19 (by decide) ?_
  refine z_iconst d_X11_unlike_20 (by decide) ?_
  refine z_cs (M1 := M_X11_isWithin) d_X11_unlike_21 ls_X11_62 k_X11_isWithin [qI 0, qI 0, qI 1] rfl rfl (Nat.le_of_ble_eq_true rfl) (by decide) (by decide) (Nat.le_of_ble_eq_true rfl) (c_isWithin 0 0 1) ?_
  refine z_ifneB 29 d_X11_unlike_24 (by decide) (fun hc3 => ?_) (fun hc3 => absurd hc3 (by omega))
  refine z_aload_n d_X11_unlike_29 rfl rfl ?_
  refine z_getf (v := qR 3) d_X11_unlike_30 fl_X11_12 (xput_ob (c := (F 2)) xi_2 rfl (xsh_11 xo_2)) rfl ?_
  refine z_getf (v := qR 4) d_X11_unlike_33 fl_X11_144 (xput_ob (c := (F 3)) xi_3 rfl (xsh_8 xo_3)) rfl ?_
  refine z_getf (v := qR 5) d_X11_unlike_36 fl_X11_148 (xput_ob (c := (F 4)) xi_4 rfl (xsh_0 xo_4)) rfl ?_
  refine z_iload_n d_X11_unlike_39 rfl rfl ?_
  refine z_ald p d_X11_unlike_40 (Or.inl ⟨rfl, rfl, rfl⟩) (xput_ob xi_5 rfl (xsh_20 xo_5)) rfl (by omega) (show (if p < 4 then some (5 + 3 + 5 * p) else none) = some (8 + 5 * p) from (if_pos (by omega)).trans (congrArg some (by omega))) ?_
  refine z_astore (ls' := [qR 2, qI (p : Int), qI (q : Int), qI 0, qR (8 + 5 * p), qU, qU, qU, qU, qU, qU, qU]) d_X11_unlike_41 (by decide) rfl ?_
  refine z_aload_n d_X11_unlike_43 rfl rfl ?_
  refine z_getf (v := qR 3) d_X11_unlike_44 fl_X11_12 (xput_ob (c := (F 2)) xi_2 rfl (xsh_11 xo_2)) rfl ?_
  refine z_getf (v := qR 4) d_X11_unlike_47 fl_X11_144 (xput_ob (c := (F 3)) xi_3 rfl (xsh_8 xo_3)) rfl ?_
  refine z_getf (v := qR 5) d_X11_unlike_50 fl_X11_148 (xput_ob (c := (F 4)) xi_4 rfl (xsh_0 xo_4)) rfl ?_
  refine z_iload_n d_X11_unlike_53 rfl rfl ?_
  refine z_ald q d_X11_unlike_54 (Or.inl ⟨rfl, rfl, rfl⟩) (xput_ob xi_5 rfl (xsh_20 xo_5)) rfl (by omega) (show (if q < 4 then some (5 + 3 + 5 * q) else none) = some (8 + 5 * q) from (if_pos (by omega)).trans (congrArg some (by omega))) ?_
  refine z_astore (ls' := [qR 2, qI (p : Int), qI (q : Int), qI 0, qR (8 + 5 * p), qR (8 + 5 * q), qU, qU, qU, qU, qU, qU]) d_X11_unlike_55 (by decide) rfl ?_
  refine z_iconst d_X11_unlike_57 (by decide) ?_
  refine z_istore (ls' := [qR 2, qI (p : Int), qI (q : Int), qI 0, qR (8 + 5 * p), qR (8 + 5 * q), qI 0, qU, qU, qU, qU, qU]) d_X11_unlike_58 (by decide) rfl ?_
  refine z_iconst d_X11_unlike_60 (by decide) ?_
  refine z_istore (ls' := [qR 2, qI (p : Int), qI (q : Int), qI 0, qR (8 + 5 * p), qR (8 + 5 * q), qI 0, qI (-1), qU, qU, qU, qU]) d_X11_unlike_61 (by decide) rfl ?_
  refine z_iconst d_X11_unlike_63 (by decide) ?_
  refine z_istore (ls' := [qR 2, qI (p : Int), qI (q : Int), qI 0, qR (8 + 5 * p), qR (8 + 5 * q), qI 0, qI (-1), qI 0, qU, qU, qU]) d_X11_unlike_64 (by decide) rfl ?_
  refine z_eq (qc rfl (qc rfl (qc rfl (qc rfl (qc rfl (qc rfl (qc (qi (rfl)) (qc (qi ((qif_t rfl).symm)) (qc (qi (rfl)) (qc rfl (qc rfl (qc rfl rfl)))))))))))) rfl rfl (z_for 567 (fun i => [qR 2, qI (p : Int), qI (q : Int), qI 0, qR (8 + 5 * p), qR (8 + 5 * q), qI (cnt (upP R C p q) i), qI (ulE (fst (upP R C p q) i)), qI (i : Int), qU, qU, qU]) (fun i => (xput h F G)) (fun i => True) trivial (fun i hii hp kki => ?_) (fun hp => ?_))
  · show qEx M_X11_unlike 66 [qR 2, qI (p : Int), qI (q : Int), qI 0, qR (8 + 5 * p), qR (8 + 5 * q), qI (cnt (upP R C p q) i), qI (ulE (fst (upP R C p q) i)), qI (i : Int), qU, qU, qU] [] (xput h F G) r hr
    have b1 := cnt_bd (upP R C p q) i
    refine z_iload d_X11_unlike_66 rfl ?_
    refine z_sipush d_X11_unlike_68 (by decide) ?_
    refine z_icmp_ge 155 d_X11_unlike_71 (by decide) (fun hc4 => absurd hc4 (by omega)) (fun hc4 => ?_)
    refine z_iload d_X11_unlike_74 rfl ?_
    refine z_cs (M1 := M_X11_ownOf) d_X11_unlike_76 ls_X11_268 k_X11_ownOf [qI (i : Int)] rfl rfl (Nat.le_of_ble_eq_true rfl) (by decide) (by decide) (Nat.le_of_ble_eq_true rfl) (z_end (c_ownOf (i : Int) (by omega)) (show _ = some (qI (((i / 81) : Nat) : Int)) from congrArg (fun z => some (qI z)) (by omega)) rfl) ?_
    refine z_istore (ls' := [qR 2, qI (p : Int), qI (q : Int), qI 0, qR (8 + 5 * p), qR (8 + 5 * q), qI (cnt (upP R C p q) i), qI (ulE (fst (upP R C p q) i)), qI (i : Int), qI (((i / 81) : Nat) : Int), qU, qU]) d_X11_unlike_79 (by decide) rfl ?_
    refine z_iload d_X11_unlike_81 rfl ?_
    refine z_cs (M1 := M_X11_leftOf) d_X11_unlike_83 ls_X11_271 k_X11_leftOf [qI (i : Int)] rfl rfl (Nat.le_of_ble_eq_true rfl) (by decide) (by decide) (Nat.le_of_ble_eq_true rfl) (z_end (c_leftOf (i : Int) (by omega)) (show _ = some (qI (((i / 9 % 9) : Nat) : Int)) from congrArg (fun z => some (qI z)) (by omega)) rfl) ?_
    refine z_istore (ls' := [qR 2, qI (p : Int), qI (q : Int), qI 0, qR (8 + 5 * p), qR (8 + 5 * q), qI (cnt (upP R C p q) i), qI (ulE (fst (upP R C p q) i)), qI (i : Int), qI (((i / 81) : Nat) : Int), qI (((i / 9 % 9) : Nat) : Int), qU]) d_X11_unlike_86 (by decide) rfl ?_
    refine z_iload d_X11_unlike_88 rfl ?_
    refine z_cs (M1 := M_X11_rightOf) d_X11_unlike_90 ls_X11_274 k_X11_rightOf [qI (i : Int)] rfl rfl (Nat.le_of_ble_eq_true rfl) (by decide) (by decide) (Nat.le_of_ble_eq_true rfl) (z_end (c_rightOf (i : Int) (by omega)) (show _ = some (qI (((i % 9) : Nat) : Int)) from congrArg (fun z => some (qI z)) (by omega)) rfl) ?_
    refine z_istore (ls' := [qR 2, qI (p : Int), qI (q : Int), qI 0, qR (8 + 5 * p), qR (8 + 5 * q), qI (cnt (upP R C p q) i), qI (ulE (fst (upP R C p q) i)), qI (i : Int), qI (((i / 81) : Nat) : Int), qI (((i / 9 % 9) : Nat) : Int), qI (((i % 9) : Nat) : Int)]) d_X11_unlike_93 (by decide) rfl ?_
    refine z_aload d_X11_unlike_95 rfl ?_
    refine z_iload d_X11_unlike_97 rfl ?_
    refine z_iload d_X11_unlike_99 rfl ?_
    refine z_iload d_X11_unlike_101 rfl ?_
    refine z_cv (M1 := M_X2_answer) d_X11_unlike_103 lv_X11_277 k_X2_answer [qI (((i / 81) : Nat) : Int), qI (((i / 9 % 9) : Nat) : Int), qI (((i % 9) : Nat) : Int)] rfl rfl (xput_ob (c := (F (8 + 5 * p))) (pgx_in (by omega) ((bkp (by decide) xo_4).2.2 p (by omega))) rfl (xsh_2 ((bkp (by decide) xo_4).2.2 p (by omega)))) ⟨_, _, rfl⟩ (Nat.le_of_ble_eq_true rfl) (by decide) (by decide) (Nat.le_of_ble_eq_true rfl) (c_pgAnswer (i / 81) (i / 9 % 9) (i % 9) (by omega) ((bkp (a := 4) (by decide) xo_4).2.2 p (by omega)) (hR p (by omega)) (by omega) (by omega) (by omega)) ?_
    refine z_aload d_X11_unlike_106 rfl ?_
    refine z_iload d_X11_unlike_108 rfl ?_
    refine z_iload d_X11_unlike_110 rfl ?_
    refine z_iload d_X11_unlike_112 rfl ?_
    refine z_cv (M1 := M_X2_answer) d_X11_unlike_114 lv_X11_277 k_X2_answer [qI (((i / 81) : Nat) : Int), qI (((i / 9 % 9) : Nat) : Int), qI (((i % 9) : Nat) : Int)] rfl rfl (xput_ob (c := (F (8 + 5 * q))) (pgx_in (by omega) ((bkp (by decide) xo_4).2.2 q (by omega))) rfl (xsh_2 ((bkp (by decide) xo_4).2.2 q (by omega)))) ⟨_, _, rfl⟩ (Nat.le_of_ble_eq_true rfl) (by decide) (by decide) (Nat.le_of_ble_eq_true rfl) (c_pgAnswer (i / 81) (i / 9 % 9) (i % 9) (by omega) ((bkp (a := 4) (by decide) xo_4).2.2 q (by omega)) (hR q (by omega)) (by omega) (by omega) (by omega)) ?_
    refine z_icmp_eq 149 d_X11_unlike_117 (by decide) (fun hq117 => ?_) (fun hq117 => ?_)
    · refine z_iinc (ls' := [qR 2, qI (p : Int), qI (q : Int), qI 0, qR (8 + 5 * p), qR (8 + 5 * q), qI (cnt (upP R C p q) i), qI (ulE (fst (upP R C p q) i)), qI ((i : Int) + 1), qI (((i / 81) : Nat) : Int), qI (((i / 9 % 9) : Nat) : Int), qI (((i % 9) : Nat) : Int)]) d_X11_unlike_149 rfl (by decide) (by omega) rfl ?_
      refine z_goto 66 d_X11_unlike_152 (by decide) ?_
      exact z_dr (qle_k rfl (qle_k rfl (qle_k rfl (qle_k rfl (qle_k rfl (qle_k rfl (qle_k (qi ((cnt_f (p := (upP R C p q)) (fun z => z hq117)).symm)) (qle_k (qi (ul_f (p := (upP R C p q)) (fun z => z hq117))) (qle_k (qi (by omega)) (qle_d (qle_d (qle_d qle_n)))))))))))) rfl rfl (kki trivial)
    · refine z_iload d_X11_unlike_120 rfl ?_
      suffices kJ122 : qEx M_X11_unlike 144 [qR 2, qI (p : Int), qI (q : Int), qI 0, qR (8 + 5 * p), qR (8 + 5 * q), qI (cnt (upP R C p q) i), qI (ulE (fst (upP R C p q) i)), qI (i : Int), qI (((i / 81) : Nat) : Int), qI (((i / 9 % 9) : Nat) : Int), qI (((i % 9) : Nat) : Int)] [qI (qif ((cnt (upP R C p q) i) ≠ 0) (ulE (fst (upP R C p q) i)) (((100 * (((i / 81) : Nat) : Int)) + (10 * (((i / 9 % 9) : Nat) : Int))) + (((i % 9) : Nat) : Int)))] (xput h F G) r hr by
        refine z_if_ne 142 d_X11_unlike_122 (by decide) (fun hc5 => ?_) (fun hc5 => ?_)
        · refine z_iload d_X11_unlike_142 rfl ?_
          exact z_eq rfl (qc (qi (qif_t hc5).symm) rfl) rfl kJ122
        · refine z_bipush d_X11_unlike_125 (by decide) ?_
          refine z_iload d_X11_unlike_127 rfl ?_
          refine z_imul d_X11_unlike_129 (by omega) ?_
          refine z_bipush d_X11_unlike_130 (by decide) ?_
          refine z_iload d_X11_unlike_132 rfl ?_
          refine z_imul d_X11_unlike_134 (by omega) ?_
          refine z_iadd d_X11_unlike_135 (by omega) ?_
          refine z_iload d_X11_unlike_136 rfl ?_
          refine z_iadd d_X11_unlike_138 (by omega) ?_
          refine z_goto 144 d_X11_unlike_139 (by decide) ?_
          exact z_eq rfl (qc (qi (qif_f hc5).symm) rfl) rfl kJ122
      refine z_eq rfl (qc (qi (show (qif ((cnt (upP R C p q) i) ≠ 0) (ulE (fst (upP R C p q) i)) (((100 * (((i / 81) : Nat) : Int)) + (10 * (((i / 9 % 9) : Nat) : Int))) + (((i % 9) : Nat) : Int))) = (qif (cnt (upP R C p q) i ≠ 0) (ulE (fst (upP R C p q) i)) (c3 i)) from rfl)) rfl) rfl ?_
      refine z_istore (ls' := [qR 2, qI (p : Int), qI (q : Int), qI 0, qR (8 + 5 * p), qR (8 + 5 * q), qI (cnt (upP R C p q) i), qI (qif (cnt (upP R C p q) i ≠ 0) (ulE (fst (upP R C p q) i)) (c3 i)), qI (i : Int), qI (((i / 81) : Nat) : Int), qI (((i / 9 % 9) : Nat) : Int), qI (((i % 9) : Nat) : Int)]) d_X11_unlike_144 (by decide) rfl ?_
      refine z_iinc (ls' := [qR 2, qI (p : Int), qI (q : Int), qI 0, qR (8 + 5 * p), qR (8 + 5 * q), qI ((cnt (upP R C p q) i) + 1), qI (qif (cnt (upP R C p q) i ≠ 0) (ulE (fst (upP R C p q) i)) (c3 i)), qI (i : Int), qI (((i / 81) : Nat) : Int), qI (((i / 9 % 9) : Nat) : Int), qI (((i % 9) : Nat) : Int)]) d_X11_unlike_146 rfl (by decide) (by omega) rfl ?_
      refine z_iinc (ls' := [qR 2, qI (p : Int), qI (q : Int), qI 0, qR (8 + 5 * p), qR (8 + 5 * q), qI ((cnt (upP R C p q) i) + 1), qI (qif (cnt (upP R C p q) i ≠ 0) (ulE (fst (upP R C p q) i)) (c3 i)), qI ((i : Int) + 1), qI (((i / 81) : Nat) : Int), qI (((i / 9 % 9) : Nat) : Int), qI (((i % 9) : Nat) : Int)]) d_X11_unlike_149 rfl (by decide) (by omega) rfl ?_
      refine z_goto 66 d_X11_unlike_152 (by decide) ?_
      exact z_dr (qle_k rfl (qle_k rfl (qle_k rfl (qle_k rfl (qle_k rfl (qle_k rfl (qle_k (qi ((cnt_t (p := (upP R C p q)) hq117).symm)) (qle_k (qi ((ul_t (p := (upP R C p q)) hq117))) (qle_k (qi (by omega)) (qle_d (qle_d (qle_d qle_n)))))))))))) rfl rfl (kki trivial)
  · show qEx M_X11_unlike 66 [qR 2, qI (p : Int), qI (q : Int), qI 0, qR (8 + 5 * p), qR (8 + 5 * q), qI (cnt (upP R C p q) 567), qI (ulE (fst (upP R C p q) 567)), qI (567 : Int), qU, qU, qU] [] (xput h F G) r hr
    refine z_iload d_X11_unlike_66 rfl ?_
    refine z_sipush d_X11_unlike_68 (by decide) ?_
    refine z_icmp_ge 155 d_X11_unlike_71 (by decide) (fun hc6 => ?_) (fun hc6 => absurd hc6 (by omega))
    refine z_iload_n d_X11_unlike_155 rfl rfl ?_
    refine z_if_ne 164 d_X11_unlike_156 (by decide) (fun hc7 => absurd hc7 (by decide)) (fun hc7 => ?_)
    refine z_iload d_X11_unlike_159 rfl ?_
    refine z_goto 166 d_X11_unlike_161 (by decide) ?_
    exact z_iret d_X11_unlike_166 rfl er eh
set_option maxRecDepth 20000 in
set_option maxHeartbeats 4000000 in
theorem xc_unlike1 {h : qH} {F G : Nat → Nat → Int} {p q : Nat} {R C : Nat → Int} (hp : p < 4) (hq : q < 4) (hR : bkR F G 4 R C) : qEx M_X11_unlike 0 [qR 2, qI (p : Int), qI (q : Int), qI 1, qU, qU, qU, qU, qU, qU, qU, qU] [] (xput h F G) (some (qI (ulE (fst (upP R C p q) 567)))) (xput h F G) := by
  refine q_gen (fun r hr er eh => ?_)
  refine z_iload_n d_X11_unlike_0 rfl rfl ?_
  refine z_iconst d_X11_unlike_1 (by decide) ?_
  refine z_iconst d_X11_unlike_2 (by decide) ?_
  refine z_cs (M1 := M_X11_isWithin) d_X11_unlike_3 ls_X11_62 k_X11_isWithin [qI (p : Int), qI 0, qI 3] rfl rfl (Nat.le_of_ble_eq_true rfl) (by decide) (by decide) (Nat.le_of_ble_eq_true rfl) (c_isWithin (p : Int) 0 3) ?_
  refine z_ifeqB 27 d_X11_unlike_6 (by decide) (fun hc1 => absurd hc1 (by omega)) (fun hc1 => ?_)
  refine z_iload_n d_X11_unlike_9 rfl rfl ?_
  refine z_iconst d_X11_unlike_10 (by decide) ?_
  refine z_iconst d_X11_unlike_11 (by decide) ?_
  refine z_cs (M1 := M_X11_isWithin) d_X11_unlike_12 ls_X11_62 k_X11_isWithin [qI (q : Int), qI 0, qI 3] rfl rfl (Nat.le_of_ble_eq_true rfl) (by decide) (by decide) (Nat.le_of_ble_eq_true rfl) (c_isWithin (q : Int) 0 3) ?_
  refine z_ifeqB 27 d_X11_unlike_15 (by decide) (fun hc2 => absurd hc2 (by omega)) (fun hc2 => ?_)
  refine z_iload_n d_X11_unlike_18 rfl rfl ?_
  refine z_iconst d_X11_unlike_19 (by decide) ?_
  refine z_iconst d_X11_unlike_20 (by decide) ?_
  refine z_cs (M1 := M_X11_isWithin) d_X11_unlike_21 ls_X11_62 k_X11_isWithin [qI 1, qI 0, qI 1] rfl rfl (Nat.le_of_ble_eq_true rfl) (by decide) (by decide) (Nat.le_of_ble_eq_true rfl) (c_isWithin 1 0 1) ?_
  refine z_ifneB 29 d_X11_unlike_24 (by decide) (fun hc3 => ?_) (fun hc3 => absurd hc3 (by omega))
  refine z_aload_n d_X11_unlike_29 rfl rfl ?_
  refine z_getf (v := qR 3) d_X11_unlike_30 fl_X11_12 (xput_ob (c := (F 2)) xi_2 rfl (xsh_11 xo_2)) rfl ?_
  refine z_getf (v := qR 4) d_X11_unlike_33 fl_X11_144 (xput_ob (c := (F 3)) xi_3 rfl (xsh_8 xo_3)) rfl ?_
  refine z_getf (v := qR 5) d_X11_unlike_36 fl_X11_148 (xput_ob (c := (F 4)) xi_4 rfl (xsh_0 xo_4)) rfl ?_
  refine z_iload_n d_X11_unlike_39 rfl rfl ?_
  refine z_ald p d_X11_unlike_40 (Or.inl ⟨rfl, rfl, rfl⟩) (xput_ob xi_5 rfl (xsh_20 xo_5)) rfl (by omega) (show (if p < 4 then some (5 + 3 + 5 * p) else none) = some (8 + 5 * p) from (if_pos (by omega)).trans (congrArg some (by omega))) ?_
  refine z_astore (ls' := [qR 2, qI (p : Int), qI (q : Int), qI 1, qR (8 + 5 * p), qU, qU, qU, qU, qU, qU, qU]) d_X11_unlike_41 (by decide) rfl ?_
  refine z_aload_n d_X11_unlike_43 rfl rfl ?_
  refine z_getf (v := qR 3) d_X11_unlike_44 fl_X11_12 (xput_ob (c := (F 2)) xi_2 rfl (xsh_11 xo_2)) rfl ?_
  refine z_getf (v := qR 4) d_X11_unlike_47 fl_X11_144 (xput_ob (c := (F 3)) xi_3 rfl (xsh_8 xo_3)) rfl ?_
  refine z_getf (v := qR 5) d_X11_unlike_50 fl_X11_148 (xput_ob (c := (F 4)) xi_4 rfl (xsh_0 xo_4)) rfl ?_
  refine z_iload_n d_X11_unlike_53 rfl rfl ?_
  refine z_ald q d_X11_unlike_54 (Or.inl ⟨rfl, rfl, rfl⟩) (xput_ob xi_5 rfl (xsh_20 xo_5)) rfl (by omega) (show (if q < 4 then some (5 + 3 + 5 * q) else none) = some (8 + 5 * q) from (if_pos (by omega)).trans (congrArg some (by omega))) ?_
  refine z_astore (ls' := [qR 2, qI (p : Int), qI (q : Int), qI 1, qR (8 + 5 * p), qR (8 + 5 * q), qU, qU, qU, qU, qU, qU]) d_X11_unlike_55 (by decide) rfl ?_
  refine z_iconst d_X11_unlike_57 (by decide) ?_
  refine z_istore (ls' := [qR 2, qI (p : Int), qI (q : Int), qI 1, qR (8 + 5 * p), qR (8 + 5 * q), qI 0, qU, qU, qU, qU, qU]) d_X11_unlike_58 (by decide) rfl ?_
  refine z_iconst d_X11_unlike_60 (by decide) ?_
  refine z_istore (ls' := [qR 2, qI (p : Int), qI (q : Int), qI 1, qR (8 + 5 * p), qR (8 + 5 * q), qI 0, qI (-1), qU, qU, qU, qU]) d_X11_unlike_61 (by decide) rfl ?_
  refine z_iconst d_X11_unlike_63 (by decide) ?_
  refine z_istore (ls' := [qR 2, qI (p : Int), qI (q : Int), qI 1, qR (8 + 5 * p), qR (8 + 5 * q), qI 0, qI (-1), qI 0, qU, qU, qU]) d_X11_unlike_64 (by decide) rfl ?_
  refine z_eq (qc rfl (qc rfl (qc rfl (qc rfl (qc rfl (qc rfl (qc (qi (rfl)) (qc (qi ((qif_t rfl).symm)) (qc (qi (rfl)) (qc rfl (qc rfl (qc rfl rfl)))))))))))) rfl rfl (z_for 567 (fun i => [qR 2, qI (p : Int), qI (q : Int), qI 1, qR (8 + 5 * p), qR (8 + 5 * q), qI (cnt (upP R C p q) i), qI (ulE (fst (upP R C p q) i)), qI (i : Int), qU, qU, qU]) (fun i => (xput h F G)) (fun i => True) trivial (fun i hii hp kki => ?_) (fun hp => ?_))
  · show qEx M_X11_unlike 66 [qR 2, qI (p : Int), qI (q : Int), qI 1, qR (8 + 5 * p), qR (8 + 5 * q), qI (cnt (upP R C p q) i), qI (ulE (fst (upP R C p q) i)), qI (i : Int), qU, qU, qU] [] (xput h F G) r hr
    have b1 := cnt_bd (upP R C p q) i
    refine z_iload d_X11_unlike_66 rfl ?_
    refine z_sipush d_X11_unlike_68 (by decide) ?_
    refine z_icmp_ge 155 d_X11_unlike_71 (by decide) (fun hc4 => absurd hc4 (by omega)) (fun hc4 => ?_)
    refine z_iload d_X11_unlike_74 rfl ?_
    refine z_cs (M1 := M_X11_ownOf) d_X11_unlike_76 ls_X11_268 k_X11_ownOf [qI (i : Int)] rfl rfl (Nat.le_of_ble_eq_true rfl) (by decide) (by decide) (Nat.le_of_ble_eq_true rfl) (z_end (c_ownOf (i : Int) (by omega)) (show _ = some (qI (((i / 81) : Nat) : Int)) from congrArg (fun z => some (qI z)) (by omega)) rfl) ?_
    refine z_istore (ls' := [qR 2, qI (p : Int), qI (q : Int), qI 1, qR (8 + 5 * p), qR (8 + 5 * q), qI (cnt (upP R C p q) i), qI (ulE (fst (upP R C p q) i)), qI (i : Int), qI (((i / 81) : Nat) : Int), qU, qU]) d_X11_unlike_79 (by decide) rfl ?_
    refine z_iload d_X11_unlike_81 rfl ?_
    refine z_cs (M1 := M_X11_leftOf) d_X11_unlike_83 ls_X11_271 k_X11_leftOf [qI (i : Int)] rfl rfl (Nat.le_of_ble_eq_true rfl) (by decide) (by decide) (Nat.le_of_ble_eq_true rfl) (z_end (c_leftOf (i : Int) (by omega)) (show _ = some (qI (((i / 9 % 9) : Nat) : Int)) from congrArg (fun z => some (qI z)) (by omega)) rfl) ?_
    refine z_istore (ls' := [qR 2, qI (p : Int), qI (q : Int), qI 1, qR (8 + 5 * p), qR (8 + 5 * q), qI (cnt (upP R C p q) i), qI (ulE (fst (upP R C p q) i)), qI (i : Int), qI (((i / 81) : Nat) : Int), qI (((i / 9 % 9) : Nat) : Int), qU]) d_X11_unlike_86 (by decide) rfl ?_
    refine z_iload d_X11_unlike_88 rfl ?_
    refine z_cs (M1 := M_X11_rightOf) d_X11_unlike_90 ls_X11_274 k_X11_rightOf [qI (i : Int)] rfl rfl (Nat.le_of_ble_eq_true rfl) (by decide) (by decide) (Nat.le_of_ble_eq_true rfl) (z_end (c_rightOf (i : Int) (by omega)) (show _ = some (qI (((i % 9) : Nat) : Int)) from congrArg (fun z => some (qI z)) (by omega)) rfl) ?_
    refine z_istore (ls' := [qR 2, qI (p : Int), qI (q : Int), qI 1, qR (8 + 5 * p), qR (8 + 5 * q), qI (cnt (upP R C p q) i), qI (ulE (fst (upP R C p q) i)), qI (i : Int), qI (((i / 81) : Nat) : Int), qI (((i / 9 % 9) : Nat) : Int), qI (((i % 9) : Nat) : Int)]) d_X11_unlike_93 (by decide) rfl ?_
    refine z_aload d_X11_unlike_95 rfl ?_
    refine z_iload d_X11_unlike_97 rfl ?_
    refine z_iload d_X11_unlike_99 rfl ?_
    refine z_iload d_X11_unlike_101 rfl ?_
    refine z_cv (M1 := M_X2_answer) d_X11_unlike_103 lv_X11_277 k_X2_answer [qI (((i / 81) : Nat) : Int), qI (((i / 9 % 9) : Nat) : Int), qI (((i % 9) : Nat) : Int)] rfl rfl (xput_ob (c := (F (8 + 5 * p))) (pgx_in (by omega) ((bkp (by decide) xo_4).2.2 p (by omega))) rfl (xsh_2 ((bkp (by decide) xo_4).2.2 p (by omega)))) ⟨_, _, rfl⟩ (Nat.le_of_ble_eq_true rfl) (by decide) (by decide) (Nat.le_of_ble_eq_true rfl) (c_pgAnswer (i / 81) (i / 9 % 9) (i % 9) (by omega) ((bkp (a := 4) (by decide) xo_4).2.2 p (by omega)) (hR p (by omega)) (by omega) (by omega) (by omega)) ?_
    refine z_aload d_X11_unlike_106 rfl ?_
    refine z_iload d_X11_unlike_108 rfl ?_
    refine z_iload d_X11_unlike_110 rfl ?_
    refine z_iload d_X11_unlike_112 rfl ?_
    refine z_cv (M1 := M_X2_answer) d_X11_unlike_114 lv_X11_277 k_X2_answer [qI (((i / 81) : Nat) : Int), qI (((i / 9 % 9) : Nat) : Int), qI (((i % 9) : Nat) : Int)] rfl rfl (xput_ob (c := (F (8 + 5 * q))) (pgx_in (by omega) ((bkp (by decide) xo_4).2.2 q (by omega))) rfl (xsh_2 ((bkp (by decide) xo_4).2.2 q (by omega)))) ⟨_, _, rfl⟩ (Nat.le_of_ble_eq_true rfl) (by decide) (by decide) (Nat.le_of_ble_eq_true rfl) (c_pgAnswer (i / 81) (i / 9 % 9) (i % 9) (by omega) ((bkp (a := 4) (by decide) xo_4).2.2 q (by omega)) (hR q (by omega)) (by omega) (by omega) (by omega)) ?_
    refine z_icmp_eq 149 d_X11_unlike_117 (by decide) (fun hq117 => ?_) (fun hq117 => ?_)
    · refine z_iinc (ls' := [qR 2, qI (p : Int), qI (q : Int), qI 1, qR (8 + 5 * p), qR (8 + 5 * q), qI (cnt (upP R C p q) i), qI (ulE (fst (upP R C p q) i)), qI ((i : Int) + 1), qI (((i / 81) : Nat) : Int), qI (((i / 9 % 9) : Nat) : Int), qI (((i % 9) : Nat) : Int)]) d_X11_unlike_149 rfl (by decide) (by omega) rfl ?_
      refine z_goto 66 d_X11_unlike_152 (by decide) ?_
      exact z_dr (qle_k rfl (qle_k rfl (qle_k rfl (qle_k rfl (qle_k rfl (qle_k rfl (qle_k (qi ((cnt_f (p := (upP R C p q)) (fun z => z hq117)).symm)) (qle_k (qi (ul_f (p := (upP R C p q)) (fun z => z hq117))) (qle_k (qi (by omega)) (qle_d (qle_d (qle_d qle_n)))))))))))) rfl rfl (kki trivial)
    · refine z_iload d_X11_unlike_120 rfl ?_
      suffices kJ122 : qEx M_X11_unlike 144 [qR 2, qI (p : Int), qI (q : Int), qI 1, qR (8 + 5 * p), qR (8 + 5 * q), qI (cnt (upP R C p q) i), qI (ulE (fst (upP R C p q) i)), qI (i : Int), qI (((i / 81) : Nat) : Int), qI (((i / 9 % 9) : Nat) : Int), qI (((i % 9) : Nat) : Int)] [qI (qif ((cnt (upP R C p q) i) ≠ 0) (ulE (fst (upP R C p q) i)) (((100 * (((i / 81) : Nat) : Int)) + (10 * (((i / 9 % 9) : Nat) : Int))) + (((i % 9) : Nat) : Int)))] (xput h F G) r hr by
        refine z_if_ne 142 d_X11_unlike_122 (by decide) (fun hc5 => ?_) (fun hc5 => ?_)
        · refine z_iload d_X11_unlike_142 rfl ?_
          exact z_eq rfl (qc (qi (qif_t hc5).symm) rfl) rfl kJ122
        · refine z_bipush d_X11_unlike_125 (by decide) ?_
          refine z_iload d_X11_unlike_127 rfl ?_
          refine z_imul d_X11_unlike_129 (by omega) ?_
          refine z_bipush d_X11_unlike_130 (by decide) ?_
          refine z_iload d_X11_unlike_132 rfl ?_
          refine z_imul d_X11_unlike_134 (by omega) ?_
          refine z_iadd d_X11_unlike_135 (by omega) ?_
          refine z_iload d_X11_unlike_136 rfl ?_
          refine z_iadd d_X11_unlike_138 (by omega) ?_
          refine z_goto 144 d_X11_unlike_139 (by decide) ?_
          exact z_eq rfl (qc (qi (qif_f hc5).symm) rfl) rfl kJ122
      refine z_eq rfl (qc (qi (show (qif ((cnt (upP R C p q) i) ≠ 0) (ulE (fst (upP R C p q) i)) (((100 * (((i / 81) : Nat) : Int)) + (10 * (((i / 9 % 9) : Nat) : Int))) + (((i % 9) : Nat) : Int))) = (qif (cnt (upP R C p q) i ≠ 0) (ulE (fst (upP R C p q) i)) (c3 i)) from rfl)) rfl) rfl ?_
      refine z_istore (ls' := [qR 2, qI (p : Int), qI (q : Int), qI 1, qR (8 + 5 * p), qR (8 + 5 * q), qI (cnt (upP R C p q) i), qI (qif (cnt (upP R C p q) i ≠ 0) (ulE (fst (upP R C p q) i)) (c3 i)), qI (i : Int), qI (((i / 81) : Nat) : Int), qI (((i / 9 % 9) : Nat) : Int), qI (((i % 9) : Nat) : Int)]) d_X11_unlike_144 (by decide) rfl ?_
      refine z_iinc (ls' := [qR 2, qI (p : Int), qI (q : Int), qI 1, qR (8 + 5 * p), qR (8 + 5 * q), qI ((cnt (upP R C p q) i) + 1), qI (qif (cnt (upP R C p q) i ≠ 0) (ulE (fst (upP R C p q) i)) (c3 i)), qI (i : Int), qI (((i / 81) : Nat) : Int), qI (((i / 9 % 9) : Nat) : Int), qI (((i % 9) : Nat) : Int)]) d_X11_unlike_146 rfl (by decide) (by omega) rfl ?_
      refine z_iinc (ls' := [qR 2, qI (p : Int), qI (q : Int), qI 1, qR (8 + 5 * p), qR (8 + 5 * q), qI ((cnt (upP R C p q) i) + 1), qI (qif (cnt (upP R C p q) i ≠ 0) (ulE (fst (upP R C p q) i)) (c3 i)), qI ((i : Int) + 1), qI (((i / 81) : Nat) : Int), qI (((i / 9 % 9) : Nat) : Int), qI (((i % 9) : Nat) : Int)]) d_X11_unlike_149 rfl (by decide) (by omega) rfl ?_
      refine z_goto 66 d_X11_unlike_152 (by decide) ?_
      exact z_dr (qle_k rfl (qle_k rfl (qle_k rfl (qle_k rfl (qle_k rfl (qle_k rfl (qle_k (qi ((cnt_t (p := (upP R C p q)) hq117).symm)) (qle_k (qi ((ul_t (p := (upP R C p q)) hq117))) (qle_k (qi (by omega)) (qle_d (qle_d (qle_d qle_n)))))))))))) rfl rfl (kki trivial)
  · show qEx M_X11_unlike 66 [qR 2, qI (p : Int), qI (q : Int), qI 1, qR (8 + 5 * p), qR (8 + 5 * q), qI (cnt (upP R C p q) 567), qI (ulE (fst (upP R C p q) 567)), qI (567 : Int), qU, qU, qU] [] (xput h F G) r hr
    refine z_iload d_X11_unlike_66 rfl ?_
    refine z_sipush d_X11_unlike_68 (by decide) ?_
    refine z_icmp_ge 155 d_X11_unlike_71 (by decide) (fun hc6 => ?_) (fun hc6 => absurd hc6 (by omega))
    refine z_iload_n d_X11_unlike_155 rfl rfl ?_
    refine z_if_ne 164 d_X11_unlike_156 (by decide) (fun hc7 => ?_) (fun hc7 => absurd (by decide) hc7)
    refine z_iload d_X11_unlike_164 rfl ?_
    exact z_iret d_X11_unlike_166 rfl er eh
set_option maxRecDepth 20000 in
set_option maxHeartbeats 4000000 in
theorem xc_unlike_no {h : qH} {F G : Nat → Nat → Int} (p q what : Int) (hno : ¬ ((0 ≤ p ∧ p ≤ 3) ∧ (0 ≤ q ∧ q ≤ 3) ∧ 0 ≤ what ∧ what ≤ 1)) : qEx M_X11_unlike 0 [qR 2, qI p, qI q, qI what, qU, qU, qU, qU, qU, qU, qU, qU] [] (xput h F G) (some (qI (-1))) (xput h F G) := by
  refine q_gen (fun r hr er eh => ?_)
  refine z_iload_n d_X11_unlike_0 rfl rfl ?_
  refine z_iconst d_X11_unlike_1 (by decide) ?_
  refine z_iconst d_X11_unlike_2 (by decide) ?_
  refine z_cs (M1 := M_X11_isWithin) d_X11_unlike_3 ls_X11_62 k_X11_isWithin [qI p, qI 0, qI 3] rfl rfl (Nat.le_of_ble_eq_true rfl) (by decide) (by decide) (Nat.le_of_ble_eq_true rfl) (c_isWithin p 0 3) ?_
  refine z_ifeqB 27 d_X11_unlike_6 (by decide) (fun hc1 => ?_) (fun hc1 => ?_)
  · refine z_iconst d_X11_unlike_27 (by decide) ?_
    exact z_iret d_X11_unlike_28 rfl er eh
  · refine z_iload_n d_X11_unlike_9 rfl rfl ?_
    refine z_iconst d_X11_unlike_10 (by decide) ?_
    refine z_iconst d_X11_unlike_11 (by decide) ?_
    refine z_cs (M1 := M_X11_isWithin) d_X11_unlike_12 ls_X11_62 k_X11_isWithin [qI q, qI 0, qI 3] rfl rfl (Nat.le_of_ble_eq_true rfl) (by decide) (by decide) (Nat.le_of_ble_eq_true rfl) (c_isWithin q 0 3) ?_
    refine z_ifeqB 27 d_X11_unlike_15 (by decide) (fun hc2 => ?_) (fun hc2 => ?_)
    · refine z_iconst d_X11_unlike_27 (by decide) ?_
      exact z_iret d_X11_unlike_28 rfl er eh
    · refine z_iload_n d_X11_unlike_18 rfl rfl ?_
      refine z_iconst d_X11_unlike_19 (by decide) ?_
      refine z_iconst d_X11_unlike_20 (by decide) ?_
      refine z_cs (M1 := M_X11_isWithin) d_X11_unlike_21 ls_X11_62 k_X11_isWithin [qI what, qI 0, qI 1] rfl rfl (Nat.le_of_ble_eq_true rfl) (by decide) (by decide) (Nat.le_of_ble_eq_true rfl) (c_isWithin what 0 1) ?_
      refine z_ifneB 29 d_X11_unlike_24 (by decide) (fun hc3 => ?_) (fun hc3 => ?_)
      · exact absurd (by omega) hno
      · refine z_iconst d_X11_unlike_27 (by decide) ?_
        exact z_iret d_X11_unlike_28 rfl er eh
set_option maxRecDepth 20000 in
set_option maxHeartbeats 4000000 in
theorem xc_of5 {h : qH} {F G : Nat → Nat → Int} {n : Nat} (k : Nat) {N : Nat → Int} (hW : wlR F G 56 N) (hO : wOk N) (hN : N 160 = (n : Int)) (hk : k < n) : qEx M_X11_of 0 [qR 2, qI (k : Int), qI 5, qU] [] (xput h F G) (some (qI (saw (snL n (N 161 ≠ 0) (fun j => N (128 + j)) k) (N (96 + k) = 1) N (fun j => N (32 + j))))) (xput h F G) := by
  refine q_gen (fun r hr er eh => ?_)
  refine z_aload_n d_X11_of_0 rfl rfl ?_
  refine z_getf (v := qR 3) d_X11_of_1 fl_X11_12 (xput_ob (c := (F 2)) xi_2 rfl (xsh_11 xo_2)) rfl ?_
  refine z_getf (v := qR 56) d_X11_of_4 fl_X11_66 (xput_ob (c := (F 3)) xi_3 rfl (xsh_8 xo_3)) rfl ?_
  refine z_astore_n (ls' := [qR 2, qI (k : Int), qI 5, qR 56]) d_X11_of_7 rfl (by decide) rfl ?_
  refine z_aload_n d_X11_of_8 rfl rfl ?_
  refine z_iload_n d_X11_of_9 rfl rfl ?_
  refine z_cv (M1 := M_X10_has) d_X11_of_10 lv_X11_83 k_X10_has [qI (k : Int)] rfl rfl (xput_ob (c := (F 56)) xi_56 rfl (xsh_10 xo_56)) ⟨_, _, rfl⟩ (Nat.le_of_ble_eq_true rfl) (by decide) (by decide) (Nat.le_of_ble_eq_true rfl) (c_wlHas (wl := 56) (n := n) (k : Int) (by decide) xo_56 hW hO hN) ?_
  refine z_ifneB 18 d_X11_of_13 (by decide) (fun hc1 => ?_) (fun hc1 => absurd hc1 (by omega))
  refine z_iload_n d_X11_of_18 rfl rfl ?_
  refine z_tableIn 109 d_X11_of_19 (by decide) (by decide) (off := 90) rfl (by decide) ?_
  refine z_aload_n d_X11_of_109 rfl rfl ?_
  refine z_iload_n d_X11_of_110 rfl rfl ?_
  refine z_cv (M1 := M_X10_mindSeenLeft) d_X11_of_111 lv_X11_121 k_X10_mindSeenLeft [qI (k : Int)] rfl rfl (xput_ob (c := (F 56)) xi_56 rfl (xsh_10 xo_56)) ⟨_, _, rfl⟩ (Nat.le_of_ble_eq_true rfl) (by decide) (by decide) (Nat.le_of_ble_eq_true rfl) (c_wlSeeL (wl := 56) k (by decide) xo_56 hW hO hN hk) ?_
  exact z_iret d_X11_of_114 rfl er eh
set_option maxRecDepth 20000 in
set_option maxHeartbeats 4000000 in
theorem xc_of6 {h : qH} {F G : Nat → Nat → Int} {n : Nat} (k : Nat) {N : Nat → Int} (hW : wlR F G 56 N) (hO : wOk N) (hN : N 160 = (n : Int)) (hk : k < n) : qEx M_X11_of 0 [qR 2, qI (k : Int), qI 6, qU] [] (xput h F G) (some (qI (saw (snR n (N 161 ≠ 0) (fun j => N (128 + j)) k) (N (96 + k) = 1) N (fun j => N (32 + j))))) (xput h F G) := by
  refine q_gen (fun r hr er eh => ?_)
  refine z_aload_n d_X11_of_0 rfl rfl ?_
  refine z_getf (v := qR 3) d_X11_of_1 fl_X11_12 (xput_ob (c := (F 2)) xi_2 rfl (xsh_11 xo_2)) rfl ?_
  refine z_getf (v := qR 56) d_X11_of_4 fl_X11_66 (xput_ob (c := (F 3)) xi_3 rfl (xsh_8 xo_3)) rfl ?_
  refine z_astore_n (ls' := [qR 2, qI (k : Int), qI 6, qR 56]) d_X11_of_7 rfl (by decide) rfl ?_
  refine z_aload_n d_X11_of_8 rfl rfl ?_
  refine z_iload_n d_X11_of_9 rfl rfl ?_
  refine z_cv (M1 := M_X10_has) d_X11_of_10 lv_X11_83 k_X10_has [qI (k : Int)] rfl rfl (xput_ob (c := (F 56)) xi_56 rfl (xsh_10 xo_56)) ⟨_, _, rfl⟩ (Nat.le_of_ble_eq_true rfl) (by decide) (by decide) (Nat.le_of_ble_eq_true rfl) (c_wlHas (wl := 56) (n := n) (k : Int) (by decide) xo_56 hW hO hN) ?_
  refine z_ifneB 18 d_X11_of_13 (by decide) (fun hc1 => ?_) (fun hc1 => absurd hc1 (by omega))
  refine z_iload_n d_X11_of_18 rfl rfl ?_
  refine z_tableIn 115 d_X11_of_19 (by decide) (by decide) (off := 96) rfl (by decide) ?_
  refine z_aload_n d_X11_of_115 rfl rfl ?_
  refine z_iload_n d_X11_of_116 rfl rfl ?_
  refine z_cv (M1 := M_X10_mindSeenRight) d_X11_of_117 lv_X11_125 k_X10_mindSeenRight [qI (k : Int)] rfl rfl (xput_ob (c := (F 56)) xi_56 rfl (xsh_10 xo_56)) ⟨_, _, rfl⟩ (Nat.le_of_ble_eq_true rfl) (by decide) (by decide) (Nat.le_of_ble_eq_true rfl) (c_wlSeeR (wl := 56) k (by decide) xo_56 hW hO hN hk) ?_
  exact z_iret d_X11_of_120 rfl er eh
set_option maxRecDepth 20000 in
set_option maxHeartbeats 4000000 in
theorem xc_of_no {h : qH} {F G : Nat → Nat → Int} {n : Nat} (k what : Int) {N : Nat → Int} (hW : wlR F G 56 N) (hO : wOk N) (hN : N 160 = (n : Int)) (hno : ¬ ((0 ≤ k ∧ k < n) ∧ 0 ≤ what ∧ what ≤ 6)) : qEx M_X11_of 0 [qR 2, qI k, qI what, qU] [] (xput h F G) (some (qI (-1))) (xput h F G) := by
  refine q_gen (fun r hr er eh => ?_)
  refine z_aload_n d_X11_of_0 rfl rfl ?_
  refine z_getf (v := qR 3) d_X11_of_1 fl_X11_12 (xput_ob (c := (F 2)) xi_2 rfl (xsh_11 xo_2)) rfl ?_
  refine z_getf (v := qR 56) d_X11_of_4 fl_X11_66 (xput_ob (c := (F 3)) xi_3 rfl (xsh_8 xo_3)) rfl ?_
  refine z_astore_n (ls' := [qR 2, qI k, qI what, qR 56]) d_X11_of_7 rfl (by decide) rfl ?_
  refine z_aload_n d_X11_of_8 rfl rfl ?_
  refine z_iload_n d_X11_of_9 rfl rfl ?_
  refine z_cv (M1 := M_X10_has) d_X11_of_10 lv_X11_83 k_X10_has [qI k] rfl rfl (xput_ob (c := (F 56)) xi_56 rfl (xsh_10 xo_56)) ⟨_, _, rfl⟩ (Nat.le_of_ble_eq_true rfl) (by decide) (by decide) (Nat.le_of_ble_eq_true rfl) (c_wlHas (wl := 56) (n := n) k (by decide) xo_56 hW hO hN) ?_
  refine z_ifneB 18 d_X11_of_13 (by decide) (fun hc1 => ?_) (fun hc1 => ?_)
  · refine z_iload_n d_X11_of_18 rfl rfl ?_
    refine z_tableOut 121 d_X11_of_19 (by omega) (by decide) ?_
    refine z_iconst d_X11_of_121 (by decide) ?_
    exact z_iret d_X11_of_122 rfl er eh
  · refine z_iconst d_X11_of_16 (by decide) ?_
    exact z_iret d_X11_of_17 rfl er eh
set_option maxRecDepth 20000 in
set_option maxHeartbeats 4000000 in
theorem c_of5 {h : qH} {m : Nat} {f : Nat → Int} {g : Nat → Nat → Int} {n : Nat} (k : Nat) (hm : 2 ≤ m) (h0 : f 0 = 0) (hN : g 11 160 = (n : Int)) (hn : n ≤ 32) (hk : k < n) : qEx M_X12_of 0 [qR m, qI (k : Int), qI 5] [] (rput h m f g) (some (qI (saw (snL n ((g 11) 161 ≠ 0) (fun j => (g 11) (128 + j)) k) ((g 11) (96 + k) = 1) (g 11) (fun j => (g 11) (32 + j))))) (rput h m f g) := by
  refine q_gen (fun r hr er eh => ?_)
  refine z_aload_n d_X12_of_0 rfl rfl ?_
  refine z_iconst d_X12_of_1 (by decide) ?_
  refine z_putf (fs' := [qI 0, qI (f 1), qI (f 2), qI (f 3), qI (f 4), qI (f 5), qI (f 6), qI (f 7), qR (m + 1), qR (m + 2), qR (m + 3), qR (m + 4), qR (m + 5), qR (m + 6), qR (m + 7), qR (m + 8), qR (m + 9), qR (m + 10), qI (f 18), qI (f 19), qI (f 20), qR (m + 11), qR (m + 12), qR (m + 13), qR (m + 14), qI (f 25), qR (m + 15), qI (f 27), qR (m + 16), qR (m + 17), qR (m + 18), qR (m + 19), qR (m + 20), qR (m + 21), qR (m + 22), qR (m + 23), qR (m + 24), qI (f 37), qI (f 38), qI (f 39), qI (f 40), qR (m + 25), qR (m + 26), qR (m + 27), qR (m + 28), qR (m + 29), qR (m + 30), qR (m + 31), qI (f 48), qR (m + 32), qR (m + 33), qR (m + 34), qR (m + 35), qR (m + 36), qR (m + 37)]) d_X12_of_2 fp_X12_127 rput_o (fun _ => rfl) (fun _ => rfl) (Nat.le_of_ble_eq_true rfl) rfl ?_
  refine z_eq rfl rfl ((rput_sf (f' := qup f 0 0) rfl).trans (rput_cg (qup_self h0) rfl)) ?_
  refine z_iload_n d_X12_of_5 rfl rfl ?_
  refine z_iconst d_X12_of_6 (by decide) ?_
  refine z_aload_n d_X12_of_7 rfl rfl ?_
  refine z_getf (v := qR (m + 11)) d_X12_of_8 fl_X12_44 rput_o rfl ?_
  refine z_sipush d_X12_of_11 (by decide) ?_
  refine z_ild 160 d_X12_of_14 (rput_a2 11 (t := 0) (n := 167) (F := (g 11)) rfl rfl rfl (by decide) (by decide)) rfl (by omega) ?_
  refine z_eq rfl (qc (qi hN) rfl) rfl ?_
  refine z_iconst d_X12_of_15 (by decide) ?_
  refine z_isub d_X12_of_16 (by omega) ?_
  refine z_cs (M1 := M_X12_in) d_X12_of_17 ls_X12_137 k_X12_in [qI (k : Int), qI 0, qI ((n : Int) - 1)] rfl rfl (Nat.le_of_ble_eq_true rfl) (by decide) (by decide) (Nat.le_of_ble_eq_true rfl) (c_in (k : Int) 0 ((n : Int) - 1)) ?_
  refine z_ifeqB 33 d_X12_of_20 (by decide) (fun hc1 => absurd hc1 (by omega)) (fun hc1 => ?_)
  refine z_iload_n d_X12_of_23 rfl rfl ?_
  refine z_iconst d_X12_of_24 (by decide) ?_
  refine z_bipush d_X12_of_25 (by decide) ?_
  refine z_cs (M1 := M_X12_in) d_X12_of_27 ls_X12_137 k_X12_in [qI 5, qI 0, qI 6] rfl rfl (Nat.le_of_ble_eq_true rfl) (by decide) (by decide) (Nat.le_of_ble_eq_true rfl) (c_in 5 0 6) ?_
  refine z_ifneB 35 d_X12_of_30 (by decide) (fun hc2 => ?_) (fun hc2 => absurd hc2 (by omega))
  refine z_iload_n d_X12_of_35 rfl rfl ?_
  refine z_tableOut 122 d_X12_of_36 (by decide) (by decide) ?_
  refine z_aload_n d_X12_of_122 rfl rfl ?_
  refine z_getf (v := qR (m + 11)) d_X12_of_123 fl_X12_44 rput_o rfl ?_
  refine z_iload_n d_X12_of_126 rfl rfl ?_
  refine z_iload_n d_X12_of_127 rfl rfl ?_
  refine z_iconst d_X12_of_128 (by decide) ?_
  refine z_isub d_X12_of_129 (by decide) ?_
  show qEx _ _ _ (qI 0 :: _) _ _ _
  refine z_cs (M1 := M_X12_sees) d_X12_of_130 ls_X12_296 k_X12_sees [qR (m + 11), qI (k : Int), qI 0] rfl rfl (Nat.le_of_ble_eq_true rfl) (by decide) (by decide) (Nat.le_of_ble_eq_true rfl) (c_sees0 k (rput_a2 11 (t := 0) (n := 167) (F := (g 11)) rfl rfl rfl (by decide) (by decide)) hN hn hk) ?_
  exact z_iret d_X12_of_133 rfl er eh
set_option maxRecDepth 20000 in
set_option maxHeartbeats 4000000 in
theorem c_of6 {h : qH} {m : Nat} {f : Nat → Int} {g : Nat → Nat → Int} {n : Nat} (k : Nat) (hm : 2 ≤ m) (h0 : f 0 = 0) (hN : g 11 160 = (n : Int)) (hn : n ≤ 32) (hk : k < n) : qEx M_X12_of 0 [qR m, qI (k : Int), qI 6] [] (rput h m f g) (some (qI (saw (snR n ((g 11) 161 ≠ 0) (fun j => (g 11) (128 + j)) k) ((g 11) (96 + k) = 1) (g 11) (fun j => (g 11) (32 + j))))) (rput h m f g) := by
  refine q_gen (fun r hr er eh => ?_)
  refine z_aload_n d_X12_of_0 rfl rfl ?_
  refine z_iconst d_X12_of_1 (by decide) ?_
  refine z_putf (fs' := [qI 0, qI (f 1), qI (f 2), qI (f 3), qI (f 4), qI (f 5), qI (f 6), qI (f 7), qR (m + 1), qR (m + 2), qR (m + 3), qR (m + 4), qR (m + 5), qR (m + 6), qR (m + 7), qR (m + 8), qR (m + 9), qR (m + 10), qI (f 18), qI (f 19), qI (f 20), qR (m + 11), qR (m + 12), qR (m + 13), qR (m + 14), qI (f 25), qR (m + 15), qI (f 27), qR (m + 16), qR (m + 17), qR (m + 18), qR (m + 19), qR (m + 20), qR (m + 21), qR (m + 22), qR (m + 23), qR (m + 24), qI (f 37), qI (f 38), qI (f 39), qI (f 40), qR (m + 25), qR (m + 26), qR (m + 27), qR (m + 28), qR (m + 29), qR (m + 30), qR (m + 31), qI (f 48), qR (m + 32), qR (m + 33), qR (m + 34), qR (m + 35), qR (m + 36), qR (m + 37)]) d_X12_of_2 fp_X12_127 rput_o (fun _ => rfl) (fun _ => rfl) (Nat.le_of_ble_eq_true rfl) rfl ?_
  refine z_eq rfl rfl ((rput_sf (f' := qup f 0 0) rfl).trans (rput_cg (qup_self h0) rfl)) ?_
  refine z_iload_n d_X12_of_5 rfl rfl ?_
  refine z_iconst d_X12_of_6 (by decide) ?_
  refine z_aload_n d_X12_of_7 rfl rfl ?_
  refine z_getf (v := qR (m + 11)) d_X12_of_8 fl_X12_44 rput_o rfl ?_
  refine z_sipush d_X12_of_11 (by decide) ?_
  refine z_ild 160 d_X12_of_14 (rput_a2 11 (t := 0) (n := 167) (F := (g 11)) rfl rfl rfl (by decide) (by decide)) rfl (by omega) ?_
  refine z_eq rfl (qc (qi hN) rfl) rfl ?_
  refine z_iconst d_X12_of_15 (by decide) ?_
  refine z_isub d_X12_of_16 (by omega) ?_
  refine z_cs (M1 := M_X12_in) d_X12_of_17 ls_X12_137 k_X12_in [qI (k : Int), qI 0, qI ((n : Int) - 1)] rfl rfl (Nat.le_of_ble_eq_true rfl) (by decide) (by decide) (Nat.le_of_ble_eq_true rfl) (c_in (k : Int) 0 ((n : Int) - 1)) ?_
  refine z_ifeqB 33 d_X12_of_20 (by decide) (fun hc1 => absurd hc1 (by omega)) (fun hc1 => ?_)
  refine z_iload_n d_X12_of_23 rfl rfl ?_
  refine z_iconst d_X12_of_24 (by decide) ?_
  refine z_bipush d_X12_of_25 (by decide) ?_
  refine z_cs (M1 := M_X12_in) d_X12_of_27 ls_X12_137 k_X12_in [qI 6, qI 0, qI 6] rfl rfl (Nat.le_of_ble_eq_true rfl) (by decide) (by decide) (Nat.le_of_ble_eq_true rfl) (c_in 6 0 6) ?_
  refine z_ifneB 35 d_X12_of_30 (by decide) (fun hc2 => ?_) (fun hc2 => absurd hc2 (by omega))
  refine z_iload_n d_X12_of_35 rfl rfl ?_
  refine z_tableOut 122 d_X12_of_36 (by decide) (by decide) ?_
  refine z_aload_n d_X12_of_122 rfl rfl ?_
  refine z_getf (v := qR (m + 11)) d_X12_of_123 fl_X12_44 rput_o rfl ?_
  refine z_iload_n d_X12_of_126 rfl rfl ?_
  refine z_iload_n d_X12_of_127 rfl rfl ?_
  refine z_iconst d_X12_of_128 (by decide) ?_
  refine z_isub d_X12_of_129 (by decide) ?_
  show qEx _ _ _ (qI 1 :: _) _ _ _
  refine z_cs (M1 := M_X12_sees) d_X12_of_130 ls_X12_296 k_X12_sees [qR (m + 11), qI (k : Int), qI 1] rfl rfl (Nat.le_of_ble_eq_true rfl) (by decide) (by decide) (Nat.le_of_ble_eq_true rfl) (c_sees1 k (rput_a2 11 (t := 0) (n := 167) (F := (g 11)) rfl rfl rfl (by decide) (by decide)) hN hn hk) ?_
  exact z_iret d_X12_of_133 rfl er eh
set_option maxRecDepth 20000 in
set_option maxHeartbeats 4000000 in
theorem xc_look1 {h : qH} {F G : Nat → Nat → Int} {N : Nat → Int} (hW : wlR F G 56 N) (h01 : N 161 = 0 ∨ N 161 = 1) : qEx M_X11_look 0 [qR 2, qI 1, qU] [] (xput h F G) (some (qI (N 161))) (xput h F G) := by
  refine q_gen (fun r hr er eh => ?_)
  refine z_aload_n d_X11_look_0 rfl rfl ?_
  refine z_getf (v := qR 3) d_X11_look_1 fl_X11_12 (xput_ob (c := (F 2)) xi_2 rfl (xsh_11 xo_2)) rfl ?_
  refine z_getf (v := qR 56) d_X11_look_4 fl_X11_66 (xput_ob (c := (F 3)) xi_3 rfl (xsh_8 xo_3)) rfl ?_
  refine z_astore_n (ls' := [qR 2, qI 1, qR 56]) d_X11_look_7 rfl (by decide) rfl ?_
  refine z_iload_n d_X11_look_8 rfl rfl ?_
  refine z_bipush d_X11_look_9 (by decide) ?_
  refine z_bipush d_X11_look_11 (by decide) ?_
  refine z_cs (M1 := M_X11_isWithin) d_X11_look_13 ls_X11_62 k_X11_isWithin [qI 1, qI 8, qI 11] rfl rfl (Nat.le_of_ble_eq_true rfl) (by decide) (by decide) (Nat.le_of_ble_eq_true rfl) (c_isWithin 1 8 11) ?_
  refine z_ifeqB 38 d_X11_look_16 (by decide) (fun hc1 => ?_) (fun hc1 => absurd hc1 (by omega))
  refine z_iload_n d_X11_look_38 rfl rfl ?_
  refine z_tableIn 121 d_X11_look_39 (by decide) (by decide) (off := 82) rfl (by decide) ?_
  refine z_aload_n d_X11_look_121 rfl rfl ?_
  refine z_getf (v := qI ((F 56) 1)) d_X11_look_122 fl_X11_162 (xput_ob (c := (F 56)) xi_56 rfl (xsh_10 xo_56)) rfl ?_
  refine z_eq rfl (qc (qi hW.1.2.1) rfl) rfl ?_
  refine z_if_eq 132 d_X11_look_125 (by decide) (fun q125 => ?_) (fun q125 => ?_)
  · refine z_iconst d_X11_look_132 (by decide) ?_
    exact z_iret d_X11_look_133 rfl (qer er (by omega)) eh
  · refine z_iconst d_X11_look_128 (by decide) ?_
    refine z_goto 133 d_X11_look_129 (by decide) ?_
    exact z_iret d_X11_look_133 rfl (qer er (by omega)) eh
set_option maxRecDepth 20000 in
set_option maxHeartbeats 4000000 in
theorem xc_look8 {h : qH} {F G : Nat → Nat → Int} {R C : Nat → Int} (hR : bkR F G 4 R C) : qEx M_X11_look 0 [qR 2, qI 8, qU] [] (xput h F G) (some (qI (C 0))) (xput h F G) := by
  refine q_gen (fun r hr er eh => ?_)
  refine z_aload_n d_X11_look_0 rfl rfl ?_
  refine z_getf (v := qR 3) d_X11_look_1 fl_X11_12 (xput_ob (c := (F 2)) xi_2 rfl (xsh_11 xo_2)) rfl ?_
  refine z_getf (v := qR 56) d_X11_look_4 fl_X11_66 (xput_ob (c := (F 3)) xi_3 rfl (xsh_8 xo_3)) rfl ?_
  refine z_astore_n (ls' := [qR 2, qI 8, qR 56]) d_X11_look_7 rfl (by decide) rfl ?_
  refine z_iload_n d_X11_look_8 rfl rfl ?_
  refine z_bipush d_X11_look_9 (by decide) ?_
  refine z_bipush d_X11_look_11 (by decide) ?_
  refine z_cs (M1 := M_X11_isWithin) d_X11_look_13 ls_X11_62 k_X11_isWithin [qI 8, qI 8, qI 11] rfl rfl (Nat.le_of_ble_eq_true rfl) (by decide) (by decide) (Nat.le_of_ble_eq_true rfl) (c_isWithin 8 8 11) ?_
  refine z_ifeqB 38 d_X11_look_16 (by decide) (fun hc1 => absurd hc1 (by omega)) (fun hc1 => ?_)
  refine z_aload_n d_X11_look_19 rfl rfl ?_
  refine z_getf (v := qR 3) d_X11_look_20 fl_X11_12 (xput_ob (c := (F 2)) xi_2 rfl (xsh_11 xo_2)) rfl ?_
  refine z_getf (v := qR 4) d_X11_look_23 fl_X11_144 (xput_ob (c := (F 3)) xi_3 rfl (xsh_8 xo_3)) rfl ?_
  refine z_getf (v := qR 5) d_X11_look_26 fl_X11_148 (xput_ob (c := (F 4)) xi_4 rfl (xsh_0 xo_4)) rfl ?_
  refine z_iload_n d_X11_look_29 rfl rfl ?_
  refine z_bipush d_X11_look_30 (by decide) ?_
  refine z_isub d_X11_look_32 (by decide) ?_
  show qEx _ _ _ (qI 0 :: _) _ _ _
  refine z_ald 0 d_X11_look_33 (Or.inl ⟨rfl, rfl, rfl⟩) (xput_ob xi_5 rfl (xsh_20 xo_5)) rfl (by omega) (show (if 0 < 4 then some (5 + 3 + 5 * 0) else none) = some 8 from (if_pos (by omega)).trans (congrArg some (by omega))) ?_
  refine z_getf (v := qI ((F 8) 4)) d_X11_look_34 fl_X11_154 (xput_ob (c := (F 8)) xi_8 rfl (xsh_2 xo_8)) rfl ?_
  exact z_iret d_X11_look_37 rfl (qer er (bkR_C hR (k := 0) (by decide)).1.symm) eh
set_option maxRecDepth 20000 in
set_option maxHeartbeats 4000000 in
theorem xc_look9 {h : qH} {F G : Nat → Nat → Int} {R C : Nat → Int} (hR : bkR F G 4 R C) : qEx M_X11_look 0 [qR 2, qI 9, qU] [] (xput h F G) (some (qI (C 1))) (xput h F G) := by
  refine q_gen (fun r hr er eh => ?_)
  refine z_aload_n d_X11_look_0 rfl rfl ?_
  refine z_getf (v := qR 3) d_X11_look_1 fl_X11_12 (xput_ob (c := (F 2)) xi_2 rfl (xsh_11 xo_2)) rfl ?_
  refine z_getf (v := qR 56) d_X11_look_4 fl_X11_66 (xput_ob (c := (F 3)) xi_3 rfl (xsh_8 xo_3)) rfl ?_
  refine z_astore_n (ls' := [qR 2, qI 9, qR 56]) d_X11_look_7 rfl (by decide) rfl ?_
  refine z_iload_n d_X11_look_8 rfl rfl ?_
  refine z_bipush d_X11_look_9 (by decide) ?_
  refine z_bipush d_X11_look_11 (by decide) ?_
  refine z_cs (M1 := M_X11_isWithin) d_X11_look_13 ls_X11_62 k_X11_isWithin [qI 9, qI 8, qI 11] rfl rfl (Nat.le_of_ble_eq_true rfl) (by decide) (by decide) (Nat.le_of_ble_eq_true rfl) (c_isWithin 9 8 11) ?_
  refine z_ifeqB 38 d_X11_look_16 (by decide) (fun hc1 => absurd hc1 (by omega)) (fun hc1 => ?_)
  refine z_aload_n d_X11_look_19 rfl rfl ?_
  refine z_getf (v := qR 3) d_X11_look_20 fl_X11_12 (xput_ob (c := (F 2)) xi_2 rfl (xsh_11 xo_2)) rfl ?_
  refine z_getf (v := qR 4) d_X11_look_23 fl_X11_144 (xput_ob (c := (F 3)) xi_3 rfl (xsh_8 xo_3)) rfl ?_
  refine z_getf (v := qR 5) d_X11_look_26 fl_X11_148 (xput_ob (c := (F 4)) xi_4 rfl (xsh_0 xo_4)) rfl ?_
  refine z_iload_n d_X11_look_29 rfl rfl ?_
  refine z_bipush d_X11_look_30 (by decide) ?_
  refine z_isub d_X11_look_32 (by decide) ?_
  show qEx _ _ _ (qI 1 :: _) _ _ _
  refine z_ald 1 d_X11_look_33 (Or.inl ⟨rfl, rfl, rfl⟩) (xput_ob xi_5 rfl (xsh_20 xo_5)) rfl (by omega) (show (if 1 < 4 then some (5 + 3 + 5 * 1) else none) = some 13 from (if_pos (by omega)).trans (congrArg some (by omega))) ?_
  refine z_getf (v := qI ((F 13) 4)) d_X11_look_34 fl_X11_154 (xput_ob (c := (F 13)) xi_13 rfl (xsh_2 xo_13)) rfl ?_
  exact z_iret d_X11_look_37 rfl (qer er (bkR_C hR (k := 1) (by decide)).1.symm) eh
set_option maxRecDepth 20000 in
set_option maxHeartbeats 4000000 in
theorem xc_look10 {h : qH} {F G : Nat → Nat → Int} {R C : Nat → Int} (hR : bkR F G 4 R C) : qEx M_X11_look 0 [qR 2, qI 10, qU] [] (xput h F G) (some (qI (C 2))) (xput h F G) := by
  refine q_gen (fun r hr er eh => ?_)
  refine z_aload_n d_X11_look_0 rfl rfl ?_
  refine z_getf (v := qR 3) d_X11_look_1 fl_X11_12 (xput_ob (c := (F 2)) xi_2 rfl (xsh_11 xo_2)) rfl ?_
  refine z_getf (v := qR 56) d_X11_look_4 fl_X11_66 (xput_ob (c := (F 3)) xi_3 rfl (xsh_8 xo_3)) rfl ?_
  refine z_astore_n (ls' := [qR 2, qI 10, qR 56]) d_X11_look_7 rfl (by decide) rfl ?_
  refine z_iload_n d_X11_look_8 rfl rfl ?_
  refine z_bipush d_X11_look_9 (by decide) ?_
  refine z_bipush d_X11_look_11 (by decide) ?_
  refine z_cs (M1 := M_X11_isWithin) d_X11_look_13 ls_X11_62 k_X11_isWithin [qI 10, qI 8, qI 11] rfl rfl (Nat.le_of_ble_eq_true rfl) (by decide) (by decide) (Nat.le_of_ble_eq_true rfl) (c_isWithin 10 8 11) ?_
  refine z_ifeqB 38 d_X11_look_16 (by decide) (fun hc1 => absurd hc1 (by omega)) (fun hc1 => ?_)
  refine z_aload_n d_X11_look_19 rfl rfl ?_
  refine z_getf (v := qR 3) d_X11_look_20 fl_X11_12 (xput_ob (c := (F 2)) xi_2 rfl (xsh_11 xo_2)) rfl ?_
  refine z_getf (v := qR 4) d_X11_look_23 fl_X11_144 (xput_ob (c := (F 3)) xi_3 rfl (xsh_8 xo_3)) rfl ?_
  refine z_getf (v := qR 5) d_X11_look_26 fl_X11_148 (xput_ob (c := (F 4)) xi_4 rfl (xsh_0 xo_4)) rfl ?_
  refine z_iload_n d_X11_look_29 rfl rfl ?_
  refine z_bipush d_X11_look_30 (by decide) ?_
  refine z_isub d_X11_look_32 (by decide) ?_
  show qEx _ _ _ (qI 2 :: _) _ _ _
  refine z_ald 2 d_X11_look_33 (Or.inl ⟨rfl, rfl, rfl⟩) (xput_ob xi_5 rfl (xsh_20 xo_5)) rfl (by omega) (show (if 2 < 4 then some (5 + 3 + 5 * 2) else none) = some 18 from (if_pos (by omega)).trans (congrArg some (by omega))) ?_
  refine z_getf (v := qI ((F 18) 4)) d_X11_look_34 fl_X11_154 (xput_ob (c := (F 18)) xi_18 rfl (xsh_2 xo_18)) rfl ?_
  exact z_iret d_X11_look_37 rfl (qer er (bkR_C hR (k := 2) (by decide)).1.symm) eh
set_option maxRecDepth 20000 in
set_option maxHeartbeats 4000000 in
theorem xc_look11 {h : qH} {F G : Nat → Nat → Int} {R C : Nat → Int} (hR : bkR F G 4 R C) : qEx M_X11_look 0 [qR 2, qI 11, qU] [] (xput h F G) (some (qI (C 3))) (xput h F G) := by
  refine q_gen (fun r hr er eh => ?_)
  refine z_aload_n d_X11_look_0 rfl rfl ?_
  refine z_getf (v := qR 3) d_X11_look_1 fl_X11_12 (xput_ob (c := (F 2)) xi_2 rfl (xsh_11 xo_2)) rfl ?_
  refine z_getf (v := qR 56) d_X11_look_4 fl_X11_66 (xput_ob (c := (F 3)) xi_3 rfl (xsh_8 xo_3)) rfl ?_
  refine z_astore_n (ls' := [qR 2, qI 11, qR 56]) d_X11_look_7 rfl (by decide) rfl ?_
  refine z_iload_n d_X11_look_8 rfl rfl ?_
  refine z_bipush d_X11_look_9 (by decide) ?_
  refine z_bipush d_X11_look_11 (by decide) ?_
  refine z_cs (M1 := M_X11_isWithin) d_X11_look_13 ls_X11_62 k_X11_isWithin [qI 11, qI 8, qI 11] rfl rfl (Nat.le_of_ble_eq_true rfl) (by decide) (by decide) (Nat.le_of_ble_eq_true rfl) (c_isWithin 11 8 11) ?_
  refine z_ifeqB 38 d_X11_look_16 (by decide) (fun hc1 => absurd hc1 (by omega)) (fun hc1 => ?_)
  refine z_aload_n d_X11_look_19 rfl rfl ?_
  refine z_getf (v := qR 3) d_X11_look_20 fl_X11_12 (xput_ob (c := (F 2)) xi_2 rfl (xsh_11 xo_2)) rfl ?_
  refine z_getf (v := qR 4) d_X11_look_23 fl_X11_144 (xput_ob (c := (F 3)) xi_3 rfl (xsh_8 xo_3)) rfl ?_
  refine z_getf (v := qR 5) d_X11_look_26 fl_X11_148 (xput_ob (c := (F 4)) xi_4 rfl (xsh_0 xo_4)) rfl ?_
  refine z_iload_n d_X11_look_29 rfl rfl ?_
  refine z_bipush d_X11_look_30 (by decide) ?_
  refine z_isub d_X11_look_32 (by decide) ?_
  show qEx _ _ _ (qI 3 :: _) _ _ _
  refine z_ald 3 d_X11_look_33 (Or.inl ⟨rfl, rfl, rfl⟩) (xput_ob xi_5 rfl (xsh_20 xo_5)) rfl (by omega) (show (if 3 < 4 then some (5 + 3 + 5 * 3) else none) = some 23 from (if_pos (by omega)).trans (congrArg some (by omega))) ?_
  refine z_getf (v := qI ((F 23) 4)) d_X11_look_34 fl_X11_154 (xput_ob (c := (F 23)) xi_23 rfl (xsh_2 xo_23)) rfl ?_
  exact z_iret d_X11_look_37 rfl (qer er (bkR_C hR (k := 3) (by decide)).1.symm) eh
set_option maxRecDepth 20000 in
set_option maxHeartbeats 4000000 in
theorem xc_look14 {h : qH} {F G : Nat → Nat → Int} {R C : Nat → Int} (hR : bkR F G 28 R C) : qEx M_X11_look 0 [qR 2, qI 14, qU] [] (xput h F G) (some (qI (sm C 4))) (xput h F G) := by
  refine q_gen (fun r hr er eh => ?_)
  refine z_aload_n d_X11_look_0 rfl rfl ?_
  refine z_getf (v := qR 3) d_X11_look_1 fl_X11_12 (xput_ob (c := (F 2)) xi_2 rfl (xsh_11 xo_2)) rfl ?_
  refine z_getf (v := qR 56) d_X11_look_4 fl_X11_66 (xput_ob (c := (F 3)) xi_3 rfl (xsh_8 xo_3)) rfl ?_
  refine z_astore_n (ls' := [qR 2, qI 14, qR 56]) d_X11_look_7 rfl (by decide) rfl ?_
  refine z_iload_n d_X11_look_8 rfl rfl ?_
  refine z_bipush d_X11_look_9 (by decide) ?_
  refine z_bipush d_X11_look_11 (by decide) ?_
  refine z_cs (M1 := M_X11_isWithin) d_X11_look_13 ls_X11_62 k_X11_isWithin [qI 14, qI 8, qI 11] rfl rfl (Nat.le_of_ble_eq_true rfl) (by decide) (by decide) (Nat.le_of_ble_eq_true rfl) (c_isWithin 14 8 11) ?_
  refine z_ifeqB 38 d_X11_look_16 (by decide) (fun hc1 => ?_) (fun hc1 => absurd hc1 (by omega))
  refine z_iload_n d_X11_look_38 rfl rfl ?_
  refine z_tableIn 192 d_X11_look_39 (by decide) (by decide) (off := 153) rfl (by decide) ?_
  refine z_aload_n d_X11_look_192 rfl rfl ?_
  refine z_getf (v := qR 3) d_X11_look_193 fl_X11_12 (xput_ob (c := (F 2)) xi_2 rfl (xsh_11 xo_2)) rfl ?_
  refine z_getf (v := qR 28) d_X11_look_196 fl_X11_181 (xput_ob (c := (F 3)) xi_3 rfl (xsh_8 xo_3)) rfl ?_
  refine z_cv (M1 := M_X0_ruleCount) d_X11_look_199 lv_X11_184 k_X0_ruleCount [] rfl rfl (xput_ob (c := (F 28)) xi_28 rfl (xsh_0 xo_28)) ⟨_, _, rfl⟩ (Nat.le_of_ble_eq_true rfl) (by decide) (by decide) (Nat.le_of_ble_eq_true rfl) (c_bkCount (b := 28) (by decide) xo_28 hR) ?_
  exact z_iret d_X11_look_202 rfl er eh
set_option maxRecDepth 20000 in
set_option maxHeartbeats 4000000 in
theorem xc_look_no {h : qH} {F G : Nat → Nat → Int} (k : Int) (hk : k < 0 ∨ 15 < k) : qEx M_X11_look 0 [qR 2, qI k, qU] [] (xput h F G) (some (qI (-1))) (xput h F G) := by
  refine q_gen (fun r hr er eh => ?_)
  refine z_aload_n d_X11_look_0 rfl rfl ?_
  refine z_getf (v := qR 3) d_X11_look_1 fl_X11_12 (xput_ob (c := (F 2)) xi_2 rfl (xsh_11 xo_2)) rfl ?_
  refine z_getf (v := qR 56) d_X11_look_4 fl_X11_66 (xput_ob (c := (F 3)) xi_3 rfl (xsh_8 xo_3)) rfl ?_
  refine z_astore_n (ls' := [qR 2, qI k, qR 56]) d_X11_look_7 rfl (by decide) rfl ?_
  refine z_iload_n d_X11_look_8 rfl rfl ?_
  refine z_bipush d_X11_look_9 (by decide) ?_
  refine z_bipush d_X11_look_11 (by decide) ?_
  refine z_cs (M1 := M_X11_isWithin) d_X11_look_13 ls_X11_62 k_X11_isWithin [qI k, qI 8, qI 11] rfl rfl (Nat.le_of_ble_eq_true rfl) (by decide) (by decide) (Nat.le_of_ble_eq_true rfl) (c_isWithin k 8 11) ?_
  refine z_ifeqB 38 d_X11_look_16 (by decide) (fun hc1 => ?_) (fun hc1 => absurd hc1 (by omega))
  refine z_iload_n d_X11_look_38 rfl rfl ?_
  refine z_tableOut 211 d_X11_look_39 (by omega) (by decide) ?_
  refine z_iconst d_X11_look_211 (by decide) ?_
  exact z_iret d_X11_look_212 rfl er eh
set_option maxRecDepth 20000 in
set_option maxHeartbeats 4000000 in
theorem xc_fires_no {h : qH} {F G : Nat → Nat → Int} (n b what : Int) (hnR : R32 n) (hno : ¬ ((1 ≤ n ∧ n ≤ 32) ∧ 0 ≤ b ∧ b < n)) : qEx M_X11_fires 0 [qR 2, qI n, qI b, qI what] [] (xput h F G) (some (qI (-1))) (xput h F G) := by
  refine q_gen (fun r hr er eh => ?_)
  refine z_iload_n d_X11_fires_0 rfl rfl ?_
  refine z_iload_n d_X11_fires_1 rfl rfl ?_
  refine z_cs (M1 := M_X11_isRun) d_X11_fires_2 ls_X11_280 k_X11_isRun [qI n, qI b] rfl rfl (Nat.le_of_ble_eq_true rfl) (by decide) (by decide) (Nat.le_of_ble_eq_true rfl) (c_isRun n b (by first | omega | exact hnR)) ?_
  refine z_ifeqB 22 d_X11_fires_5 (by decide) (fun hc1 => ?_) (fun hc1 => absurd hc1 (by exact hno))
  refine z_iconst d_X11_fires_22 (by decide) ?_
  exact z_iret d_X11_fires_23 rfl er eh
set_option maxRecDepth 20000 in
set_option maxHeartbeats 4000000 in
theorem xc_fires_out {h : qH} {F G : Nat → Nat → Int} {n b : Nat} (what : Int) {T : Nat → Int} (hn : 1 ≤ n ∧ n ≤ 32) (hbn : b < n) (hwh : ¬ (0 ≤ what ∧ what ≤ 2)) (hT : ∀ c, c < 648 → G 6 c = T c) (hB : ∀ c, c < 648 → 0 ≤ T c ∧ T c ≤ 7) : ∃ F' G', (xfr 173 176 F G F' G') ∧ qEx M_X11_fires 0 [qR 2, qI (n : Int), qI (b : Int), qI what] [] (xput h F G) (some (qI (-1))) (xput h F' G') := by
  refine x_in (fun Q hQ => ?_)
  refine qy (fun _ _ k9 => z_iload_n d_X11_fires_0 rfl rfl k9) ?_
  refine qy (fun _ _ k9 => z_iload_n d_X11_fires_1 rfl rfl k9) ?_
  refine qy (fun _ _ k9 => z_cs (M1 := M_X11_isRun) d_X11_fires_2 ls_X11_280 k_X11_isRun [qI (n : Int), qI (b : Int)] rfl rfl (Nat.le_of_ble_eq_true rfl) (by decide) (by decide) (Nat.le_of_ble_eq_true rfl) (c_isRun (n : Int) (b : Int) (by omega)) k9) ?_
  refine qy2n (fun _ _ => z_ifeqB 22 d_X11_fires_5 (by decide)) (fun hc1 => absurd hc1 (by omega)) (fun hc1 => ?_)
  refine qy (fun _ _ k9 => z_aload_n d_X11_fires_8 rfl rfl k9) ?_
  refine qy (fun _ _ k9 => z_iload_n d_X11_fires_9 rfl rfl k9) ?_
  refine qy (fun _ _ k9 => z_iload_n d_X11_fires_10 rfl rfl k9) ?_
  refine qy (fun _ _ k9 => z_iconst d_X11_fires_11 (by decide) k9) ?_
  obtain ⟨F1, G1, ⟨hv1, hr1⟩, hx1⟩ := c_firesOf (h := h) (F := F) (G := G) (n := n) (b := b) (rg := 0) (T := T) hn (by omega) (by decide) hT hB
  refine qy (fun _ _ k9 => z_cv (M1 := M_X11_firesOf) d_X11_fires_12 lv_X11_284 k_X11_firesOf [qI (n : Int), qI (b : Int), qI 0] rfl rfl (xput_ob (c := (F 2)) xi_2 rfl (xsh_11 xo_2)) ⟨_, _, rfl⟩ (Nat.le_of_ble_eq_true rfl) (by decide) (by decide) (Nat.le_of_ble_eq_true rfl) hx1 k9) ?_
  refine qy (fun _ _ k9 => z_iload_n d_X11_fires_15 rfl rfl k9) ?_
  refine qy (fun _ _ k9 => z_cv (M1 := M_X7_outcome) d_X11_fires_16 lv_X11_288 k_X7_outcome [qI what] rfl rfl (xput_ob (c := (F1 173)) xi_173 rfl (xsh_7 xo_173)) ⟨_, _, rfl⟩ (Nat.le_of_ble_eq_true rfl) (by decide) (by decide) (Nat.le_of_ble_eq_true rfl) (c_rnOutN what (by decide) xo_173 hwh) k9) ?_
  refine qy (fun _ _ k9 => z_goto 23 d_X11_fires_19 (by decide) k9) ?_
  exact y_ret (hQ F1 G1 hv1) (z_iret d_X11_fires_23 rfl rfl rfl)
set_option maxRecDepth 20000 in
set_option maxHeartbeats 4000000 in
theorem xc_ring_no {h : qH} {F G : Nat → Nat → Int} (n b what : Int) (hnR : R32 n) (hno : ¬ ((1 ≤ n ∧ n ≤ 32) ∧ 0 ≤ b ∧ b < n)) : qEx M_X11_ring 0 [qR 2, qI n, qI b, qI what] [] (xput h F G) (some (qI (-1))) (xput h F G) := by
  refine q_gen (fun r hr er eh => ?_)
  refine z_iload_n d_X11_ring_0 rfl rfl ?_
  refine z_iload_n d_X11_ring_1 rfl rfl ?_
  refine z_cs (M1 := M_X11_isRun) d_X11_ring_2 ls_X11_280 k_X11_isRun [qI n, qI b] rfl rfl (Nat.le_of_ble_eq_true rfl) (by decide) (by decide) (Nat.le_of_ble_eq_true rfl) (c_isRun n b (by first | omega | exact hnR)) ?_
  refine z_ifeqB 22 d_X11_ring_5 (by decide) (fun hc1 => ?_) (fun hc1 => absurd hc1 (by exact hno))
  refine z_iconst d_X11_ring_22 (by decide) ?_
  exact z_iret d_X11_ring_23 rfl er eh
set_option maxRecDepth 20000 in
set_option maxHeartbeats 4000000 in
theorem xc_ring_out {h : qH} {F G : Nat → Nat → Int} {n b : Nat} (what : Int) {T : Nat → Int} (hn : 1 ≤ n ∧ n ≤ 32) (hbn : b < n) (hwh : ¬ (0 ≤ what ∧ what ≤ 2)) (hT : ∀ c, c < 648 → G 6 c = T c) (hB : ∀ c, c < 648 → 0 ≤ T c ∧ T c ≤ 7) : ∃ F' G', (xfr 173 176 F G F' G') ∧ qEx M_X11_ring 0 [qR 2, qI (n : Int), qI (b : Int), qI what] [] (xput h F G) (some (qI (-1))) (xput h F' G') := by
  refine x_in (fun Q hQ => ?_)
  refine qy (fun _ _ k9 => z_iload_n d_X11_ring_0 rfl rfl k9) ?_
  refine qy (fun _ _ k9 => z_iload_n d_X11_ring_1 rfl rfl k9) ?_
  refine qy (fun _ _ k9 => z_cs (M1 := M_X11_isRun) d_X11_ring_2 ls_X11_280 k_X11_isRun [qI (n : Int), qI (b : Int)] rfl rfl (Nat.le_of_ble_eq_true rfl) (by decide) (by decide) (Nat.le_of_ble_eq_true rfl) (c_isRun (n : Int) (b : Int) (by omega)) k9) ?_
  refine qy2n (fun _ _ => z_ifeqB 22 d_X11_ring_5 (by decide)) (fun hc1 => absurd hc1 (by omega)) (fun hc1 => ?_)
  refine qy (fun _ _ k9 => z_aload_n d_X11_ring_8 rfl rfl k9) ?_
  refine qy (fun _ _ k9 => z_iload_n d_X11_ring_9 rfl rfl k9) ?_
  refine qy (fun _ _ k9 => z_iload_n d_X11_ring_10 rfl rfl k9) ?_
  refine qy (fun _ _ k9 => z_iconst d_X11_ring_11 (by decide) k9) ?_
  obtain ⟨F1, G1, ⟨hv1, hr1⟩, hx1⟩ := c_firesOf (h := h) (F := F) (G := G) (n := n) (b := b) (rg := 1) (T := T) hn (by omega) (by decide) hT hB
  refine qy (fun _ _ k9 => z_cv (M1 := M_X11_firesOf) d_X11_ring_12 lv_X11_284 k_X11_firesOf [qI (n : Int), qI (b : Int), qI 1] rfl rfl (xput_ob (c := (F 2)) xi_2 rfl (xsh_11 xo_2)) ⟨_, _, rfl⟩ (Nat.le_of_ble_eq_true rfl) (by decide) (by decide) (Nat.le_of_ble_eq_true rfl) hx1 k9) ?_
  refine qy (fun _ _ k9 => z_iload_n d_X11_ring_15 rfl rfl k9) ?_
  refine qy (fun _ _ k9 => z_cv (M1 := M_X7_outcome) d_X11_ring_16 lv_X11_288 k_X7_outcome [qI what] rfl rfl (xput_ob (c := (F1 173)) xi_173 rfl (xsh_7 xo_173)) ⟨_, _, rfl⟩ (Nat.le_of_ble_eq_true rfl) (by decide) (by decide) (Nat.le_of_ble_eq_true rfl) (c_rnOutN what (by decide) xo_173 hwh) k9) ?_
  refine qy (fun _ _ k9 => z_goto 23 d_X11_ring_19 (by decide) k9) ?_
  exact y_ret (hQ F1 G1 hv1) (z_iret d_X11_ring_23 rfl rfl rfl)
set_option maxRecDepth 20000 in
set_option maxHeartbeats 4000000 in
theorem xc_two_no {h : qH} {F G : Nat → Nat → Int} (to d : Int) (hno : ¬ ((2 ≤ to ∧ to ≤ 24) ∧ 0 ≤ d ∧ d ≤ 40)) : qEx M_X11_two 0 [qR 2, qI to, qI d, qU] [] (xput h F G) (some (qI (-1))) (xput h F G) := by
  refine q_gen (fun r hr er eh => ?_)
  refine z_iload_n d_X11_two_0 rfl rfl ?_
  refine z_iconst d_X11_two_1 (by decide) ?_
  refine z_bipush d_X11_two_2 (by decide) ?_
  refine z_cs (M1 := M_X11_isWithin) d_X11_two_4 ls_X11_62 k_X11_isWithin [qI to, qI 2, qI 24] rfl rfl (Nat.le_of_ble_eq_true rfl) (by decide) (by decide) (Nat.le_of_ble_eq_true rfl) (c_isWithin to 2 24) ?_
  refine z_ifeqB 20 d_X11_two_7 (by decide) (fun q7 => ?_) (fun q7 => ?_)
  · refine z_iconst d_X11_two_20 (by decide) ?_
    exact z_iret d_X11_two_21 rfl er eh
  · refine z_iload_n d_X11_two_10 rfl rfl ?_
    refine z_iconst d_X11_two_11 (by decide) ?_
    refine z_bipush d_X11_two_12 (by decide) ?_
    refine z_cs (M1 := M_X11_isWithin) d_X11_two_14 ls_X11_62 k_X11_isWithin [qI d, qI 0, qI 40] rfl rfl (Nat.le_of_ble_eq_true rfl) (by decide) (by decide) (Nat.le_of_ble_eq_true rfl) (c_isWithin d 0 40) ?_
    refine z_ifneB 22 d_X11_two_17 (by decide) (fun q17 => ?_) (fun q17 => ?_)
    · exact absurd ⟨q7, q17⟩ hno
    · refine z_iconst d_X11_two_20 (by decide) ?_
      exact z_iret d_X11_two_21 rfl er eh
set_option maxRecDepth 20000 in
set_option maxHeartbeats 4000000 in
theorem xc_soon_no {h : qH} {F G : Nat → Nat → Int} (n b what : Int) (hnR : R32 n) (hno : ¬ (((1 ≤ n ∧ n ≤ 32) ∧ 0 ≤ b ∧ b < n) ∧ 0 ≤ what ∧ what ≤ 1)) : qEx M_X11_soon 0 [qR 2, qI n, qI b, qI what, qU, qU] [] (xput h F G) (some (qI (-100))) (xput h F G) := by
  refine q_gen (fun r hr er eh => ?_)
  refine z_iload_n d_X11_soon_0 rfl rfl ?_
  refine z_iload_n d_X11_soon_1 rfl rfl ?_
  refine z_cs (M1 := M_X11_isRun) d_X11_soon_2 ls_X11_280 k_X11_isRun [qI n, qI b] rfl rfl (Nat.le_of_ble_eq_true rfl) (by decide) (by decide) (Nat.le_of_ble_eq_true rfl) (c_isRun n b (by first | omega | exact hnR)) ?_
  refine z_ifeqB 17 d_X11_soon_5 (by decide) (fun q5 => ?_) (fun q5 => ?_)
  · refine z_bipush d_X11_soon_17 (by decide) ?_
    exact z_iret d_X11_soon_19 rfl er eh
  · refine z_iload_n d_X11_soon_8 rfl rfl ?_
    refine z_iconst d_X11_soon_9 (by decide) ?_
    refine z_iconst d_X11_soon_10 (by decide) ?_
    refine z_cs (M1 := M_X11_isWithin) d_X11_soon_11 ls_X11_62 k_X11_isWithin [qI what, qI 0, qI 1] rfl rfl (Nat.le_of_ble_eq_true rfl) (by decide) (by decide) (Nat.le_of_ble_eq_true rfl) (c_isWithin what 0 1) ?_
    refine z_ifneB 20 d_X11_soon_14 (by decide) (fun q14 => ?_) (fun q14 => ?_)
    · exact absurd ⟨q5, q14⟩ hno
    · refine z_bipush d_X11_soon_17 (by decide) ?_
      exact z_iret d_X11_soon_19 rfl er eh
set_option maxRecDepth 20000 in
set_option maxHeartbeats 4000000 in
theorem xc_says_no {h : qH} {F G : Nat → Nat → Int} (o l r0 what : Int) (hno : ¬ ((0 ≤ o ∧ o ≤ 7) ∧ (0 ≤ l ∧ l ≤ 8) ∧ (0 ≤ r0 ∧ r0 ≤ 8) ∧ 0 ≤ what ∧ what ≤ 1)) : qEx M_X11_says 0 [qR 2, qI o, qI l, qI r0, qI what, qU] [] (xput h F G) (some (qI (-1))) (xput h F G) := by
  refine q_gen (fun r hr er eh => ?_)
  refine z_iload_n d_X11_says_0 rfl rfl ?_
  refine z_iconst d_X11_says_1 (by decide) ?_
  refine z_bipush d_X11_says_2 (by decide) ?_
  refine z_cs (M1 := M_X11_isWithin) d_X11_says_4 ls_X11_62 k_X11_isWithin [qI o, qI 0, qI 7] rfl rfl (Nat.le_of_ble_eq_true rfl) (by decide) (by decide) (Nat.le_of_ble_eq_true rfl) (c_isWithin o 0 7) ?_
  refine z_ifeqB 30 d_X11_says_7 (by decide) (fun hc1 => ?_) (fun hc1 => ?_)
  · refine z_iconst d_X11_says_30 (by decide) ?_
    exact z_iret d_X11_says_31 rfl er eh
  · refine z_iload_n d_X11_says_10 rfl rfl ?_
    refine z_iconst d_X11_says_11 (by decide) ?_
    refine z_bipush d_X11_says_12 (by decide) ?_
    refine z_cs (M1 := M_X11_isWithin) d_X11_says_14 ls_X11_62 k_X11_isWithin [qI l, qI 0, qI 8] rfl rfl (Nat.le_of_ble_eq_true rfl) (by decide) (by decide) (Nat.le_of_ble_eq_true rfl) (c_isWithin l 0 8) ?_
    refine z_ifeqB 30 d_X11_says_17 (by decide) (fun hc2 => ?_) (fun hc2 => ?_)
    · refine z_iconst d_X11_says_30 (by decide) ?_
      exact z_iret d_X11_says_31 rfl er eh
    · refine z_iload_n d_X11_says_20 rfl rfl ?_
      refine z_iconst d_X11_says_21 (by decide) ?_
      refine z_bipush d_X11_says_22 (by decide) ?_
      refine z_cs (M1 := M_X11_isWithin) d_X11_says_24 ls_X11_62 k_X11_isWithin [qI r0, qI 0, qI 8] rfl rfl (Nat.le_of_ble_eq_true rfl) (by decide) (by decide) (Nat.le_of_ble_eq_true rfl) (c_isWithin r0 0 8) ?_
      refine z_ifneB 32 d_X11_says_27 (by decide) (fun hc3 => ?_) (fun hc3 => ?_)
      · refine z_iload_n d_X11_says_32 rfl rfl ?_
        refine z_iload_n d_X11_says_33 rfl rfl ?_
        refine z_iload_n d_X11_says_34 rfl rfl ?_
        refine z_cs (M1 := M_X11_caseOf) d_X11_says_35 ls_X11_239 k_X11_caseOf [qI o, qI l, qI r0] rfl rfl (Nat.le_of_ble_eq_true rfl) (by decide) (by decide) (Nat.le_of_ble_eq_true rfl) (c_caseOf o l r0 (by omega) (by omega) (by omega)) ?_
        refine z_istore (ls' := [qR 2, qI o, qI l, qI r0, qI what, qI (81 * o + 9 * l + r0)]) d_X11_says_38 (by decide) rfl ?_
        refine z_iload d_X11_says_40 rfl ?_
        refine z_if_ne 59 d_X11_says_42 (by decide) (fun hc4 => ?_) (fun hc4 => ?_)
        · refine z_iload d_X11_says_59 rfl ?_
          refine z_iconst d_X11_says_61 (by decide) ?_
          refine z_icmp_ne 81 d_X11_says_62 (by decide) (fun hc5 => ?_) (fun hc5 => ?_)
          · refine z_iconst d_X11_says_81 (by decide) ?_
            exact z_iret d_X11_says_82 rfl er eh
          · exact absurd (by omega) hno
        · exact absurd (by omega) hno
      · refine z_iconst d_X11_says_30 (by decide) ?_
        exact z_iret d_X11_says_31 rfl er eh
set_option maxRecDepth 20000 in
set_option maxHeartbeats 4000000 in
theorem xc_breaths_no {h : qH} {F G : Nat → Nat → Int} {N : Nat → Int} (c : Int) (hW : wlR F G 56 N) (hcR : R32 c) (hb : 0 ≤ N 162 ∧ N 162 ≤ 9999) (hno : ¬ ((1 ≤ c ∧ c ≤ 60) ∧ N 162 + c ≤ 9999)) : qEx M_X11_breaths 0 [qR 2, qI c, qU] [] (xput h F G) (some (qI (-1))) (xput h F G) := by
  refine q_gen (fun r hr er eh => ?_)
  refine z_iload_n d_X11_breaths_0 rfl rfl ?_
  refine z_iconst d_X11_breaths_1 (by decide) ?_
  refine z_bipush d_X11_breaths_2 (by decide) ?_
  refine z_cs (M1 := M_X11_isWithin) d_X11_breaths_4 ls_X11_62 k_X11_isWithin [qI c, qI 1, qI 60] rfl rfl (Nat.le_of_ble_eq_true rfl) (by decide) (by decide) (Nat.le_of_ble_eq_true rfl) (c_isWithin c 1 60) ?_
  refine z_ifeqB 28 d_X11_breaths_7 (by decide) (fun hc1 => ?_) (fun hc1 => ?_)
  · refine z_iconst d_X11_breaths_28 (by decide) ?_
    exact z_iret d_X11_breaths_29 rfl er eh
  · refine z_aload_n d_X11_breaths_10 rfl rfl ?_
    refine z_getf (v := qR 3) d_X11_breaths_11 fl_X11_12 (xput_ob (c := (F 2)) xi_2 rfl (xsh_11 xo_2)) rfl ?_
    refine z_getf (v := qR 56) d_X11_breaths_14 fl_X11_66 (xput_ob (c := (F 3)) xi_3 rfl (xsh_8 xo_3)) rfl ?_
    refine z_getf (v := qI ((F 56) 8)) d_X11_breaths_17 fl_X11_95 (xput_ob (c := (F 56)) xi_56 rfl (xsh_10 xo_56)) rfl ?_
    refine z_eq rfl (qc (qi hW.1.2.2.1) rfl) rfl ?_
    refine z_iload_n d_X11_breaths_20 rfl rfl ?_
    refine z_iadd d_X11_breaths_21 (by omega) ?_
    refine z_sipush d_X11_breaths_22 (by decide) ?_
    refine z_icmp_le 30 d_X11_breaths_25 (by decide) (fun hc2 => ?_) (fun hc2 => ?_)
    · exact absurd (by omega) hno
    · refine z_iconst d_X11_breaths_28 (by decide) ?_
      exact z_iret d_X11_breaths_29 rfl er eh
set_option maxRecDepth 20000 in
set_option maxHeartbeats 4000000 in
theorem xc_trees_no {h : qH} {F G : Nat → Nat → Int} (what : Int) {n L : Nat} {A T : Nat → Int} (hwh : ¬ (0 ≤ what ∧ what ≤ 2)) (hLt : F 54 2 = (L : Int)) (hLm : L ≤ xM 54) (hC : trC (G 55) L) (hA : ∀ k, k < 16 → A k = trF (G 55) (fun _ => -1) L k) (hn : n = trN A 16) (hT : ∀ c, c < 648 → G 6 c = T c) (hB : ∀ c, c < 648 → 0 ≤ T c ∧ T c ≤ 7) : ∃ F' G', (xfr 173 176 F G F' G') ∧ qEx M_X11_trees 0 [qR 2, qI what, qU] [] (xput h F G) (some (qI (-1))) (xput h F' G') := by
  refine x_in (fun Q hQ => ?_)
  have hn1 : 1 ≤ n ∧ n ≤ 16 := by have h1 := trN_X hC hA; have h2 := trG9_bd hC L (Nat.le_refl _); omega
  refine qy (fun _ _ k9 => z_aload_n d_X11_trees_0 rfl rfl k9) ?_
  refine qy (fun _ _ k9 => z_getf (v := qR 172) d_X11_trees_1 fl_X11_40 (xput_ob (c := (F 2)) xi_2 rfl (xsh_11 xo_2)) rfl k9) ?_
  refine qy (fun _ _ k9 => z_getf (v := qR 173) d_X11_trees_4 fl_X11_293 (xput_ob (c := (F 172)) xi_172 rfl (xsh_9 xo_172)) rfl k9) ?_
  refine qy (fun _ _ k9 => z_astore_n (ls' := [qR 2, qI what, qR 173]) d_X11_trees_7 rfl (by decide) rfl k9) ?_
  refine qy (fun _ _ k9 => z_aload_n d_X11_trees_8 rfl rfl k9) ?_
  refine qy (fun _ _ k9 => z_aload_n d_X11_trees_9 rfl rfl k9) ?_
  refine qy (fun _ _ k9 => z_getf (v := qR 3) d_X11_trees_10 fl_X11_12 (xput_ob (c := (F 2)) xi_2 rfl (xsh_11 xo_2)) rfl k9) ?_
  refine qy (fun _ _ k9 => z_getf (v := qR 54) d_X11_trees_13 fl_X11_178 (xput_ob (c := (F 3)) xi_3 rfl (xsh_8 xo_3)) rfl k9) ?_
  obtain ⟨F1, G1, ⟨hv1, hw1, ha1⟩, hx1⟩ := c_trStart (h := h) (F := F) (G := G) (n := n) hLt hLm hC (by rw [hn]; exact trN_X hC hA)
  refine qy (fun _ _ k9 => z_cv0 (M1 := M_X7_startTree) d_X11_trees_16 lv_X11_305 k_X7_startTree [qR 54] rfl rfl (xput_ob (c := (F 173)) xi_173 rfl (xsh_7 xo_173)) ⟨_, _, rfl⟩ (Nat.le_of_ble_eq_true rfl) (by decide) (by decide) (Nat.le_of_ble_eq_true rfl) hx1 k9) ?_
  refine qy (fun _ _ k9 => z_aload_n d_X11_trees_19 rfl rfl k9) ?_
  refine qy (fun _ _ k9 => z_aload_n d_X11_trees_20 rfl rfl k9) ?_
  refine qy (fun _ _ k9 => z_getf (v := qR 3) d_X11_trees_21 fl_X11_12 (xput_ob (c := (F1 2)) xi_2 rfl (xsh_11 xo_2)) rfl k9) ?_
  refine qy (fun _ _ k9 => z_getf (v := qR 4) d_X11_trees_24 fl_X11_144 (xput_ob (c := (F1 3)) xi_3 rfl (xsh_8 xo_3)) rfl k9) ?_
  refine qy (fun _ _ k9 => z_getf (v := qR 6) d_X11_trees_27 fl_X11_243 (xput_ob (c := (F1 4)) xi_4 rfl (xsh_0 xo_4)) rfl k9) ?_
  obtain ⟨F2, G2, ⟨tt2, ch2, hv2, hw2, he2⟩, hx2⟩ := c_trFin (h := h) (F := F1) (G := G1) (n := n) (A := A) (T := T) hn1 (fun k hk => by rw [ha1 k (by omega), hA k (by omega)]) (trA_F hC hA) (fun c hc => by rw [xfr_G hv1 (by decide)]; exact hT c hc) hB hw1
  refine qy (fun _ _ k9 => z_cv0 (M1 := M_X7_finish) d_X11_trees_30 lv_X11_301 k_X7_finish [qR 6] rfl rfl (xput_ob (c := (F1 173)) xi_173 rfl (xsh_7 xo_173)) ⟨_, _, rfl⟩ (Nat.le_of_ble_eq_true rfl) (by decide) (by decide) (Nat.le_of_ble_eq_true rfl) hx2 k9) ?_
  refine qy (fun _ _ k9 => z_aload_n d_X11_trees_33 rfl rfl k9) ?_
  refine qy (fun _ _ k9 => z_iload_n d_X11_trees_34 rfl rfl k9) ?_
  refine qy (fun _ _ k9 => z_cv (M1 := M_X7_outcome) d_X11_trees_35 lv_X11_288 k_X7_outcome [qI what] rfl rfl (xput_ob (c := (F2 173)) xi_173 rfl (xsh_7 xo_173)) ⟨_, _, rfl⟩ (Nat.le_of_ble_eq_true rfl) (by decide) (by decide) (Nat.le_of_ble_eq_true rfl) (c_rnOutN what (by decide) xo_173 hwh) k9) ?_
  exact y_ret (hQ F2 G2 (xfr_tr hv1 hv2)) (z_iret d_X11_trees_38 rfl rfl rfl)
