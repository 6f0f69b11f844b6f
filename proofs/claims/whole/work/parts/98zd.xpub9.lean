/-! ===== CONTRACTS: BeaconWall: meets ===== -/
set_option maxRecDepth 20000 in
set_option maxHeartbeats 4000000 in
theorem xc_meets0 {h : qH} {F G : Nat → Nat → Int} {K : Nat} {MK : Nat → Int} (i j : Nat) {p s a b p2 s2 c d : Int} (hM : rwR F G 63 K MK) (hi : i < K) (hj : j < K) (hij : i ≠ j) (hp : MK (4 * i) = p) (hs : MK (4 * i + 1) = s) (ha : MK (4 * i + 2) = a) (hb : MK (4 * i + 3) = b) (hp2 : MK (4 * j) = p2) (hs2 : MK (4 * j + 1) = s2) (hc : MK (4 * j + 2) = c) (hd : MK (4 * j + 3) = d) (bp : 0 ≤ p ∧ p ≤ 99) (bs : 0 ≤ s ∧ s ≤ 99) (ba : -9 ≤ a ∧ a ≤ 9) (bb : 1 ≤ b ∧ b ≤ 9) (bp2 : 0 ≤ p2 ∧ p2 ≤ 99) (bs2 : 0 ≤ s2 ∧ s2 ≤ 99) (bc : -9 ≤ c ∧ c ≤ 9) (bd : 1 ≤ d ∧ d ≤ 9) : qEx M_X11_meets 0 [qR 2, qI (i : Int), qI (j : Int), qI 0, qU, qU, qU, qU, qU, qU, qU, qU, qU] [] (xput h F G) (some (qI (qif ((a * d - c * b) = 0) (-10000000) (lowR ((p2 - p) * b * d + s * a * d - s2 * c * b) (a * d - c * b) 1)))) (xput h F G) := by
  refine q_gen (fun r hr er eh => ?_)
  have m1 := mulb (x := a) (y := d) 9 9 81 (by omega) (by omega) rfl
  have m2 := mulb (x := c) (y := b) 9 9 81 (by omega) (by omega) rfl
  have m3 := mulb (x := p2 - p) (y := b) 99 9 891 (by omega) (by omega) rfl
  have m4 := mulb (x := (p2 - p) * b) (y := d) 891 9 8019 (by omega) (by omega) rfl
  have m5 := mulb (x := a) (y := s) 9 99 891 (by omega) (by omega) rfl
  have m6 := mulb (x := a * s) (y := d) 891 9 8019 (by omega) (by omega) rfl
  have m7 := mulb (x := c) (y := s2) 9 99 891 (by omega) (by omega) rfl
  have m8 := mulb (x := c * s2) (y := b) 891 9 8019 (by omega) (by omega) rfl
  have k5 := mulb (x := s) (y := a) 99 9 891 (by omega) (by omega) rfl
  have k6 := mulb (x := s * a) (y := d) 891 9 8019 (by omega) (by omega) rfl
  have k7 := mulb (x := s2) (y := c) 99 9 891 (by omega) (by omega) rfl
  have k8 := mulb (x := s2 * c) (y := b) 891 9 8019 (by omega) (by omega) rfl
  refine z_aload_n d_X11_meets_0 rfl rfl ?_
  refine z_getf (v := qR 3) d_X11_meets_1 fl_X11_12 (xput_ob (c := (F 2)) xi_2 rfl (xsh_11 xo_2)) rfl ?_
  refine z_getf (v := qR 63) d_X11_meets_4 fl_X11_426 (xput_ob (c := (F 3)) xi_3 rfl (xsh_8 xo_3)) rfl ?_
  refine z_astore (ls' := [qR 2, qI (i : Int), qI (j : Int), qI 0, qR 63, qU, qU, qU, qU, qU, qU, qU, qU]) d_X11_meets_7 (by decide) rfl ?_
  refine z_iload_n d_X11_meets_9 rfl rfl ?_
  refine z_iload_n d_X11_meets_10 rfl rfl ?_
  refine z_icmp_eq 41 d_X11_meets_11 (by decide) (fun hc1 => absurd hc1 (by omega)) (fun hc1 => ?_)
  refine z_aload d_X11_meets_14 rfl ?_
  refine z_iload_n d_X11_meets_16 rfl rfl ?_
  refine z_cv (M1 := M_X6_has) d_X11_meets_17 lv_X11_435 k_X6_has [qI (i : Int)] rfl rfl (xput_ob (c := (F 63)) xi_63 rfl (xsh_6 xo_63)) ⟨_, _, rfl⟩ (Nat.le_of_ble_eq_true rfl) (by decide) (by decide) (Nat.le_of_ble_eq_true rfl) (c_rwHas (q := 63) (L := K) (i : Int) (by decide) xo_63 hM.1 hM.2.1) ?_
  refine z_ifeqB 41 d_X11_meets_20 (by decide) (fun hc2 => absurd hc2 (by omega)) (fun hc2 => ?_)
  refine z_aload d_X11_meets_23 rfl ?_
  refine z_iload_n d_X11_meets_25 rfl rfl ?_
  refine z_cv (M1 := M_X6_has) d_X11_meets_26 lv_X11_435 k_X6_has [qI (j : Int)] rfl rfl (xput_ob (c := (F 63)) xi_63 rfl (xsh_6 xo_63)) ⟨_, _, rfl⟩ (Nat.le_of_ble_eq_true rfl) (by decide) (by decide) (Nat.le_of_ble_eq_true rfl) (c_rwHas (q := 63) (L := K) (j : Int) (by decide) xo_63 hM.1 hM.2.1) ?_
  refine z_ifeqB 41 d_X11_meets_29 (by decide) (fun hc3 => absurd hc3 (by omega)) (fun hc3 => ?_)
  refine z_iload_n d_X11_meets_32 rfl rfl ?_
  refine z_iconst d_X11_meets_33 (by decide) ?_
  refine z_iconst d_X11_meets_34 (by decide) ?_
  refine z_cs (M1 := M_X11_isWithin) d_X11_meets_35 ls_X11_62 k_X11_isWithin [qI 0, qI 0, qI 3] rfl rfl (Nat.le_of_ble_eq_true rfl) (by decide) (by decide) (Nat.le_of_ble_eq_true rfl) (c_isWithin 0 0 3) ?_
  refine z_ifneB 45 d_X11_meets_38 (by decide) (fun hc4 => ?_) (fun hc4 => absurd hc4 (by omega))
  refine z_aload d_X11_meets_45 rfl ?_
  refine z_iload_n d_X11_meets_47 rfl rfl ?_
  refine z_iconst d_X11_meets_48 (by decide) ?_
  refine z_cv (M1 := M_X6_cell) d_X11_meets_49 lv_X11_132 k_X6_cell [qI (i : Int), qI 0] rfl rfl (xput_ob (c := (F 63)) xi_63 rfl (xsh_6 xo_63)) ⟨_, _, rfl⟩ (Nat.le_of_ble_eq_true rfl) (by decide) (by decide) (Nat.le_of_ble_eq_true rfl) (by have e9 := c_rwC (h := h) (F := F) (G := G) (q := 63) (L := K) i 0 (by decide) xo_63 hM.1 hM.2.1 (by omega) (by decide); rw [show G (63 + 1) (4 * i + 0) = p from (hM.2.2 _ (by omega)).trans hp] at e9; exact e9) ?_
  refine z_istore (ls' := [qR 2, qI (i : Int), qI (j : Int), qI 0, qR 63, qI p, qU, qU, qU, qU, qU, qU, qU]) d_X11_meets_52 (by decide) rfl ?_
  refine z_aload d_X11_meets_54 rfl ?_
  refine z_iload_n d_X11_meets_56 rfl rfl ?_
  refine z_iconst d_X11_meets_57 (by decide) ?_
  refine z_cv (M1 := M_X6_cell) d_X11_meets_58 lv_X11_132 k_X6_cell [qI (i : Int), qI 1] rfl rfl (xput_ob (c := (F 63)) xi_63 rfl (xsh_6 xo_63)) ⟨_, _, rfl⟩ (Nat.le_of_ble_eq_true rfl) (by decide) (by decide) (Nat.le_of_ble_eq_true rfl) (by have e9 := c_rwC (h := h) (F := F) (G := G) (q := 63) (L := K) i 1 (by decide) xo_63 hM.1 hM.2.1 (by omega) (by decide); rw [show G (63 + 1) (4 * i + 1) = s from (hM.2.2 _ (by omega)).trans hs] at e9; exact e9) ?_
  refine z_istore (ls' := [qR 2, qI (i : Int), qI (j : Int), qI 0, qR 63, qI p, qI s, qU, qU, qU, qU, qU, qU]) d_X11_meets_61 (by decide) rfl ?_
  refine z_aload d_X11_meets_63 rfl ?_
  refine z_iload_n d_X11_meets_65 rfl rfl ?_
  refine z_iconst d_X11_meets_66 (by decide) ?_
  refine z_cv (M1 := M_X6_cell) d_X11_meets_67 lv_X11_132 k_X6_cell [qI (i : Int), qI 2] rfl rfl (xput_ob (c := (F 63)) xi_63 rfl (xsh_6 xo_63)) ⟨_, _, rfl⟩ (Nat.le_of_ble_eq_true rfl) (by decide) (by decide) (Nat.le_of_ble_eq_true rfl) (by have e9 := c_rwC (h := h) (F := F) (G := G) (q := 63) (L := K) i 2 (by decide) xo_63 hM.1 hM.2.1 (by omega) (by decide); rw [show G (63 + 1) (4 * i + 2) = a from (hM.2.2 _ (by omega)).trans ha] at e9; exact e9) ?_
  refine z_istore (ls' := [qR 2, qI (i : Int), qI (j : Int), qI 0, qR 63, qI p, qI s, qI a, qU, qU, qU, qU, qU]) d_X11_meets_70 (by decide) rfl ?_
  refine z_aload d_X11_meets_72 rfl ?_
  refine z_iload_n d_X11_meets_74 rfl rfl ?_
  refine z_iconst d_X11_meets_75 (by decide) ?_
  refine z_cv (M1 := M_X6_cell) d_X11_meets_76 lv_X11_132 k_X6_cell [qI (i : Int), qI 3] rfl rfl (xput_ob (c := (F 63)) xi_63 rfl (xsh_6 xo_63)) ⟨_, _, rfl⟩ (Nat.le_of_ble_eq_true rfl) (by decide) (by decide) (Nat.le_of_ble_eq_true rfl) (by have e9 := c_rwC (h := h) (F := F) (G := G) (q := 63) (L := K) i 3 (by decide) xo_63 hM.1 hM.2.1 (by omega) (by decide); rw [show G (63 + 1) (4 * i + 3) = b from (hM.2.2 _ (by omega)).trans hb] at e9; exact e9) ?_
  refine z_istore (ls' := [qR 2, qI (i : Int), qI (j : Int), qI 0, qR 63, qI p, qI s, qI a, qI b, qU, qU, qU, qU]) d_X11_meets_79 (by decide) rfl ?_
  refine z_aload d_X11_meets_81 rfl ?_
  refine z_iload_n d_X11_meets_83 rfl rfl ?_
  refine z_iconst d_X11_meets_84 (by decide) ?_
  refine z_cv (M1 := M_X6_cell) d_X11_meets_85 lv_X11_132 k_X6_cell [qI (j : Int), qI 2] rfl rfl (xput_ob (c := (F 63)) xi_63 rfl (xsh_6 xo_63)) ⟨_, _, rfl⟩ (Nat.le_of_ble_eq_true rfl) (by decide) (by decide) (Nat.le_of_ble_eq_true rfl) (by have e9 := c_rwC (h := h) (F := F) (G := G) (q := 63) (L := K) j 2 (by decide) xo_63 hM.1 hM.2.1 (by omega) (by decide); rw [show G (63 + 1) (4 * j + 2) = c from (hM.2.2 _ (by omega)).trans hc] at e9; exact e9) ?_
  refine z_istore (ls' := [qR 2, qI (i : Int), qI (j : Int), qI 0, qR 63, qI p, qI s, qI a, qI b, qI c, qU, qU, qU]) d_X11_meets_88 (by decide) rfl ?_
  refine z_aload d_X11_meets_90 rfl ?_
  refine z_iload_n d_X11_meets_92 rfl rfl ?_
  refine z_iconst d_X11_meets_93 (by decide) ?_
  refine z_cv (M1 := M_X6_cell) d_X11_meets_94 lv_X11_132 k_X6_cell [qI (j : Int), qI 3] rfl rfl (xput_ob (c := (F 63)) xi_63 rfl (xsh_6 xo_63)) ⟨_, _, rfl⟩ (Nat.le_of_ble_eq_true rfl) (by decide) (by decide) (Nat.le_of_ble_eq_true rfl) (by have e9 := c_rwC (h := h) (F := F) (G := G) (q := 63) (L := K) j 3 (by decide) xo_63 hM.1 hM.2.1 (by omega) (by decide); rw [show G (63 + 1) (4 * j + 3) = d from (hM.2.2 _ (by omega)).trans hd] at e9; exact e9) ?_
  refine z_istore (ls' := [qR 2, qI (i : Int), qI (j : Int), qI 0, qR 63, qI p, qI s, qI a, qI b, qI c, qI d, qU, qU]) d_X11_meets_97 (by decide) rfl ?_
  refine z_iload d_X11_meets_99 rfl ?_
  refine z_iload d_X11_meets_101 rfl ?_
  refine z_imul d_X11_meets_103 (by omega) ?_
  refine z_iload d_X11_meets_104 rfl ?_
  refine z_iload d_X11_meets_106 rfl ?_
  refine z_imul d_X11_meets_108 (by omega) ?_
  refine z_isub d_X11_meets_109 (by omega) ?_
  refine z_istore (ls' := [qR 2, qI (i : Int), qI (j : Int), qI 0, qR 63, qI p, qI s, qI a, qI b, qI c, qI d, qI ((a * d) - (c * b)), qU]) d_X11_meets_110 (by decide) rfl ?_
  refine z_iload d_X11_meets_112 rfl ?_
  refine z_if_ne 121 d_X11_meets_114 (by decide) (fun hz => ?_) (fun hz => ?_)
  · refine z_aload d_X11_meets_121 rfl ?_
    refine z_iload_n d_X11_meets_123 rfl rfl ?_
    refine z_iconst d_X11_meets_124 (by decide) ?_
    refine z_cv (M1 := M_X6_cell) d_X11_meets_125 lv_X11_132 k_X6_cell [qI (j : Int), qI 0] rfl rfl (xput_ob (c := (F 63)) xi_63 rfl (xsh_6 xo_63)) ⟨_, _, rfl⟩ (Nat.le_of_ble_eq_true rfl) (by decide) (by decide) (Nat.le_of_ble_eq_true rfl) (by have e9 := c_rwC (h := h) (F := F) (G := G) (q := 63) (L := K) j 0 (by decide) xo_63 hM.1 hM.2.1 (by omega) (by decide); rw [show G (63 + 1) (4 * j + 0) = p2 from (hM.2.2 _ (by omega)).trans hp2] at e9; exact e9) ?_
    refine z_iload d_X11_meets_128 rfl ?_
    refine z_isub d_X11_meets_130 (by omega) ?_
    refine z_iload d_X11_meets_131 rfl ?_
    refine z_imul d_X11_meets_133 (by omega) ?_
    refine z_iload d_X11_meets_134 rfl ?_
    refine z_imul d_X11_meets_136 (by omega) ?_
    refine z_iload d_X11_meets_137 rfl ?_
    refine z_iload d_X11_meets_139 rfl ?_
    refine z_imul d_X11_meets_141 (by omega) ?_
    refine z_iload d_X11_meets_142 rfl ?_
    refine z_imul d_X11_meets_144 (by omega) ?_
    refine z_iadd d_X11_meets_145 (by omega) ?_
    refine z_iload d_X11_meets_146 rfl ?_
    refine z_aload d_X11_meets_148 rfl ?_
    refine z_iload_n d_X11_meets_150 rfl rfl ?_
    refine z_iconst d_X11_meets_151 (by decide) ?_
    refine z_cv (M1 := M_X6_cell) d_X11_meets_152 lv_X11_132 k_X6_cell [qI (j : Int), qI 1] rfl rfl (xput_ob (c := (F 63)) xi_63 rfl (xsh_6 xo_63)) ⟨_, _, rfl⟩ (Nat.le_of_ble_eq_true rfl) (by decide) (by decide) (Nat.le_of_ble_eq_true rfl) (by have e9 := c_rwC (h := h) (F := F) (G := G) (q := 63) (L := K) j 1 (by decide) xo_63 hM.1 hM.2.1 (by omega) (by decide); rw [show G (63 + 1) (4 * j + 1) = s2 from (hM.2.2 _ (by omega)).trans hs2] at e9; exact e9) ?_
    refine z_imul d_X11_meets_155 (by omega) ?_
    refine z_iload d_X11_meets_156 rfl ?_
    refine z_imul d_X11_meets_158 (by omega) ?_
    refine z_isub d_X11_meets_159 (by omega) ?_
    refine z_eq rfl (qc (qi (show (((((p2 - p) * b) * d) + ((a * s) * d)) - ((c * s2) * b)) = ((p2 - p) * b * d + s * a * d - s2 * c * b) from by rw [Int.mul_comm a s, Int.mul_comm c s2])) rfl) rfl ?_
    refine z_istore (ls' := [qR 2, qI (i : Int), qI (j : Int), qI 0, qR 63, qI p, qI s, qI a, qI b, qI c, qI d, qI ((a * d) - (c * b)), qI ((p2 - p) * b * d + s * a * d - s2 * c * b)]) d_X11_meets_160 (by decide) rfl ?_
    refine z_iload_n d_X11_meets_162 rfl rfl ?_
    refine z_iconst d_X11_meets_163 (by decide) ?_
    refine z_icmp_ge 185 d_X11_meets_164 (by decide) (fun hc5 => absurd hc5 (by decide)) (fun hc5 => ?_)
    refine z_iload d_X11_meets_167 rfl ?_
    refine z_iload d_X11_meets_169 rfl ?_
    refine z_iload_n d_X11_meets_171 rfl rfl ?_
    refine z_iconst d_X11_meets_172 (by decide) ?_
    refine z_icmp_ne 180 d_X11_meets_173 (by decide) (fun hc6 => ?_) (fun hc6 => absurd (by decide) hc6)
    refine z_iconst d_X11_meets_180 (by decide) ?_
    refine z_cs (M1 := M_X11_partOf) d_X11_meets_181 ls_X11_437 k_X11_partOf [qI ((p2 - p) * b * d + s * a * d - s2 * c * b), qI ((a * d) - (c * b)), qI 0] rfl rfl (Nat.le_of_ble_eq_true rfl) (by decide) (by decide) (Nat.le_of_ble_eq_true rfl) (c_part1 ((p2 - p) * b * d + s * a * d - s2 * c * b) ((a * d) - (c * b)) (by omega) (by omega) (by omega)) ?_
    exact z_iret d_X11_meets_184 rfl (qer er (qif_f (by omega))) eh
  · refine z_ldcw (n := -10000000) d_X11_meets_117 ct_X11_436 (by decide) (by decide) ?_
    exact z_iret d_X11_meets_120 rfl (qer er (qif_t (by omega))) eh
set_option maxRecDepth 20000 in
set_option maxHeartbeats 4000000 in
theorem xc_meets1 {h : qH} {F G : Nat → Nat → Int} {K : Nat} {MK : Nat → Int} (i j : Nat) {p s a b p2 s2 c d : Int} (hM : rwR F G 63 K MK) (hi : i < K) (hj : j < K) (hij : i ≠ j) (hp : MK (4 * i) = p) (hs : MK (4 * i + 1) = s) (ha : MK (4 * i + 2) = a) (hb : MK (4 * i + 3) = b) (hp2 : MK (4 * j) = p2) (hs2 : MK (4 * j + 1) = s2) (hc : MK (4 * j + 2) = c) (hd : MK (4 * j + 3) = d) (bp : 0 ≤ p ∧ p ≤ 99) (bs : 0 ≤ s ∧ s ≤ 99) (ba : -9 ≤ a ∧ a ≤ 9) (bb : 1 ≤ b ∧ b ≤ 9) (bp2 : 0 ≤ p2 ∧ p2 ≤ 99) (bs2 : 0 ≤ s2 ∧ s2 ≤ 99) (bc : -9 ≤ c ∧ c ≤ 9) (bd : 1 ≤ d ∧ d ≤ 9) : qEx M_X11_meets 0 [qR 2, qI (i : Int), qI (j : Int), qI 1, qU, qU, qU, qU, qU, qU, qU, qU, qU] [] (xput h F G) (some (qI (qif ((a * d - c * b) = 0) (-10000000) (lowR ((p2 - p) * b * d + s * a * d - s2 * c * b) (a * d - c * b) 0)))) (xput h F G) := by
  refine q_gen (fun r hr er eh => ?_)
  have m1 := mulb (x := a) (y := d) 9 9 81 (by omega) (by omega) rfl
  have m2 := mulb (x := c) (y := b) 9 9 81 (by omega) (by omega) rfl
  have m3 := mulb (x := p2 - p) (y := b) 99 9 891 (by omega) (by omega) rfl
  have m4 := mulb (x := (p2 - p) * b) (y := d) 891 9 8019 (by omega) (by omega) rfl
  have m5 := mulb (x := a) (y := s) 9 99 891 (by omega) (by omega) rfl
  have m6 := mulb (x := a * s) (y := d) 891 9 8019 (by omega) (by omega) rfl
  have m7 := mulb (x := c) (y := s2) 9 99 891 (by omega) (by omega) rfl
  have m8 := mulb (x := c * s2) (y := b) 891 9 8019 (by omega) (by omega) rfl
  have k5 := mulb (x := s) (y := a) 99 9 891 (by omega) (by omega) rfl
  have k6 := mulb (x := s * a) (y := d) 891 9 8019 (by omega) (by omega) rfl
  have k7 := mulb (x := s2) (y := c) 99 9 891 (by omega) (by omega) rfl
  have k8 := mulb (x := s2 * c) (y := b) 891 9 8019 (by omega) (by omega) rfl
  refine z_aload_n d_X11_meets_0 rfl rfl ?_
  refine z_getf (v := qR 3) d_X11_meets_1 fl_X11_12 (xput_ob (c := (F 2)) xi_2 rfl (xsh_11 xo_2)) rfl ?_
  refine z_getf (v := qR 63) d_X11_meets_4 fl_X11_426 (xput_ob (c := (F 3)) xi_3 rfl (xsh_8 xo_3)) rfl ?_
  refine z_astore (ls' := [qR 2, qI (i : Int), qI (j : Int), qI 1, qR 63, qU, qU, qU, qU, qU, qU, qU, qU]) d_X11_meets_7 (by decide) rfl ?_
  refine z_iload_n d_X11_meets_9 rfl rfl ?_
  refine z_iload_n d_X11_meets_10 rfl rfl ?_
  refine z_icmp_eq 41 d_X11_meets_11 (by decide) (fun hc1 => absurd hc1 (by omega)) (fun hc1 => ?_)
  refine z_aload d_X11_meets_14 rfl ?_
  refine z_iload_n d_X11_meets_16 rfl rfl ?_
  refine z_cv (M1 := M_X6_has) d_X11_meets_17 lv_X11_435 k_X6_has [qI (i : Int)] rfl rfl (xput_ob (c := (F 63)) xi_63 rfl (xsh_6 xo_63)) ⟨_, _, rfl⟩ (Nat.le_of_ble_eq_true rfl) (by decide) (by decide) (Nat.le_of_ble_eq_true rfl) (c_rwHas (q := 63) (L := K) (i : Int) (by decide) xo_63 hM.1 hM.2.1) ?_
  refine z_ifeqB 41 d_X11_meets_20 (by decide) (fun hc2 => absurd hc2 (by omega)) (fun hc2 => ?_)
  refine z_aload d_X11_meets_23 rfl ?_
  refine z_iload_n d_X11_meets_25 rfl rfl ?_
  refine z_cv (M1 := M_X6_has) d_X11_meets_26 lv_X11_435 k_X6_has [qI (j : Int)] rfl rfl (xput_ob (c := (F 63)) xi_63 rfl (xsh_6 xo_63)) ⟨_, _, rfl⟩ (Nat.le_of_ble_eq_true rfl) (by decide) (by decide) (Nat.le_of_ble_eq_true rfl) (c_rwHas (q := 63) (L := K) (j : Int) (by decide) xo_63 hM.1 hM.2.1) ?_
  refine z_ifeqB 41 d_X11_meets_29 (by decide) (fun hc3 => absurd hc3 (by omega)) (fun hc3 => ?_)
  refine z_iload_n d_X11_meets_32 rfl rfl ?_
  refine z_iconst d_X11_meets_33 (by decide) ?_
  refine z_iconst d_X11_meets_34 (by decide) ?_
  refine z_cs (M1 := M_X11_isWithin) d_X11_meets_35 ls_X11_62 k_X11_isWithin [qI 1, qI 0, qI 3] rfl rfl (Nat.le_of_ble_eq_true rfl) (by decide) (by decide) (Nat.le_of_ble_eq_true rfl) (c_isWithin 1 0 3) ?_
  refine z_ifneB 45 d_X11_meets_38 (by decide) (fun hc4 => ?_) (fun hc4 => absurd hc4 (by omega))
  refine z_aload d_X11_meets_45 rfl ?_
  refine z_iload_n d_X11_meets_47 rfl rfl ?_
  refine z_iconst d_X11_meets_48 (by decide) ?_
  refine z_cv (M1 := M_X6_cell) d_X11_meets_49 lv_X11_132 k_X6_cell [qI (i : Int), qI 0] rfl rfl (xput_ob (c := (F 63)) xi_63 rfl (xsh_6 xo_63)) ⟨_, _, rfl⟩ (Nat.le_of_ble_eq_true rfl) (by decide) (by decide) (Nat.le_of_ble_eq_true rfl) (by have e9 := c_rwC (h := h) (F := F) (G := G) (q := 63) (L := K) i 0 (by decide) xo_63 hM.1 hM.2.1 (by omega) (by decide); rw [show G (63 + 1) (4 * i + 0) = p from (hM.2.2 _ (by omega)).trans hp] at e9; exact e9) ?_
  refine z_istore (ls' := [qR 2, qI (i : Int), qI (j : Int), qI 1, qR 63, qI p, qU, qU, qU, qU, qU, qU, qU]) d_X11_meets_52 (by decide) rfl ?_
  refine z_aload d_X11_meets_54 rfl ?_
  refine z_iload_n d_X11_meets_56 rfl rfl ?_
  refine z_iconst d_X11_meets_57 (by decide) ?_
  refine z_cv (M1 := M_X6_cell) d_X11_meets_58 lv_X11_132 k_X6_cell [qI (i : Int), qI 1] rfl rfl (xput_ob (c := (F 63)) xi_63 rfl (xsh_6 xo_63)) ⟨_, _, rfl⟩ (Nat.le_of_ble_eq_true rfl) (by decide) (by decide) (Nat.le_of_ble_eq_true rfl) (by have e9 := c_rwC (h := h) (F := F) (G := G) (q := 63) (L := K) i 1 (by decide) xo_63 hM.1 hM.2.1 (by omega) (by decide); rw [show G (63 + 1) (4 * i + 1) = s from (hM.2.2 _ (by omega)).trans hs] at e9; exact e9) ?_
  refine z_istore (ls' := [qR 2, qI (i : Int), qI (j : Int), qI 1, qR 63, qI p, qI s, qU, qU, qU, qU, qU, qU]) d_X11_meets_61 (by decide) rfl ?_
  refine z_aload d_X11_meets_63 rfl ?_
  refine z_iload_n d_X11_meets_65 rfl rfl ?_
  refine z_iconst d_X11_meets_66 (by decide) ?_
  refine z_cv (M1 := M_X6_cell) d_X11_meets_67 lv_X11_132 k_X6_cell [qI (i : Int), qI 2] rfl rfl (xput_ob (c := (F 63)) xi_63 rfl (xsh_6 xo_63)) ⟨_, _, rfl⟩ (Nat.le_of_ble_eq_true rfl) (by decide) (by decide) (Nat.le_of_ble_eq_true rfl) (by have e9 := c_rwC (h := h) (F := F) (G := G) (q := 63) (L := K) i 2 (by decide) xo_63 hM.1 hM.2.1 (by omega) (by decide); rw [show G (63 + 1) (4 * i + 2) = a from (hM.2.2 _ (by omega)).trans ha] at e9; exact e9) ?_
  refine z_istore (ls' := [qR 2, qI (i : Int), qI (j : Int), qI 1, qR 63, qI p, qI s, qI a, qU, qU, qU, qU, qU]) d_X11_meets_70 (by decide) rfl ?_
  refine z_aload d_X11_meets_72 rfl ?_
  refine z_iload_n d_X11_meets_74 rfl rfl ?_
  refine z_iconst d_X11_meets_75 (by decide) ?_
  refine z_cv (M1 := M_X6_cell) d_X11_meets_76 lv_X11_132 k_X6_cell [qI (i : Int), qI 3] rfl rfl (xput_ob (c := (F 63)) xi_63 rfl (xsh_6 xo_63)) ⟨_, _, rfl⟩ (Nat.le_of_ble_eq_true rfl) (by decide) (by decide) (Nat.le_of_ble_eq_true rfl) (by have e9 := c_rwC (h := h) (F := F) (G := G) (q := 63) (L := K) i 3 (by decide) xo_63 hM.1 hM.2.1 (by omega) (by decide); rw [show G (63 + 1) (4 * i + 3) = b from (hM.2.2 _ (by omega)).trans hb] at e9; exact e9) ?_
  refine z_istore (ls' := [qR 2, qI (i : Int), qI (j : Int), qI 1, qR 63, qI p, qI s, qI a, qI b, qU, qU, qU, qU]) d_X11_meets_79 (by decide) rfl ?_
  refine z_aload d_X11_meets_81 rfl ?_
  refine z_iload_n d_X11_meets_83 rfl rfl ?_
  refine z_iconst d_X11_meets_84 (by decide) ?_
  refine z_cv (M1 := M_X6_cell) d_X11_meets_85 lv_X11_132 k_X6_cell [qI (j : Int), qI 2] rfl rfl (xput_ob (c := (F 63)) xi_63 rfl (xsh_6 xo_63)) ⟨_, _, rfl⟩ (Nat.le_of_ble_eq_true rfl) (by decide) (by decide) (Nat.le_of_ble_eq_true rfl) (by have e9 := c_rwC (h := h) (F := F) (G := G) (q := 63) (L := K) j 2 (by decide) xo_63 hM.1 hM.2.1 (by omega) (by decide); rw [show G (63 + 1) (4 * j + 2) = c from (hM.2.2 _ (by omega)).trans hc] at e9; exact e9) ?_
  refine z_istore (ls' := [qR 2, qI (i : Int), qI (j : Int), qI 1, qR 63, qI p, qI s, qI a, qI b, qI c, qU, qU, qU]) d_X11_meets_88 (by decide) rfl ?_
  refine z_aload d_X11_meets_90 rfl ?_
  refine z_iload_n d_X11_meets_92 rfl rfl ?_
  refine z_iconst d_X11_meets_93 (by decide) ?_
  refine z_cv (M1 := M_X6_cell) d_X11_meets_94 lv_X11_132 k_X6_cell [qI (j : Int), qI 3] rfl rfl (xput_ob (c := (F 63)) xi_63 rfl (xsh_6 xo_63)) ⟨_, _, rfl⟩ (Nat.le_of_ble_eq_true rfl) (by decide) (by decide) (Nat.le_of_ble_eq_true rfl) (by have e9 := c_rwC (h := h) (F := F) (G := G) (q := 63) (L := K) j 3 (by decide) xo_63 hM.1 hM.2.1 (by omega) (by decide); rw [show G (63 + 1) (4 * j + 3) = d from (hM.2.2 _ (by omega)).trans hd] at e9; exact e9) ?_
  refine z_istore (ls' := [qR 2, qI (i : Int), qI (j : Int), qI 1, qR 63, qI p, qI s, qI a, qI b, qI c, qI d, qU, qU]) d_X11_meets_97 (by decide) rfl ?_
  refine z_iload d_X11_meets_99 rfl ?_
  refine z_iload d_X11_meets_101 rfl ?_
  refine z_imul d_X11_meets_103 (by omega) ?_
  refine z_iload d_X11_meets_104 rfl ?_
  refine z_iload d_X11_meets_106 rfl ?_
  refine z_imul d_X11_meets_108 (by omega) ?_
  refine z_isub d_X11_meets_109 (by omega) ?_
  refine z_istore (ls' := [qR 2, qI (i : Int), qI (j : Int), qI 1, qR 63, qI p, qI s, qI a, qI b, qI c, qI d, qI ((a * d) - (c * b)), qU]) d_X11_meets_110 (by decide) rfl ?_
  refine z_iload d_X11_meets_112 rfl ?_
  refine z_if_ne 121 d_X11_meets_114 (by decide) (fun hz => ?_) (fun hz => ?_)
  · refine z_aload d_X11_meets_121 rfl ?_
    refine z_iload_n d_X11_meets_123 rfl rfl ?_
    refine z_iconst d_X11_meets_124 (by decide) ?_
    refine z_cv (M1 := M_X6_cell) d_X11_meets_125 lv_X11_132 k_X6_cell [qI (j : Int), qI 0] rfl rfl (xput_ob (c := (F 63)) xi_63 rfl (xsh_6 xo_63)) ⟨_, _, rfl⟩ (Nat.le_of_ble_eq_true rfl) (by decide) (by decide) (Nat.le_of_ble_eq_true rfl) (by have e9 := c_rwC (h := h) (F := F) (G := G) (q := 63) (L := K) j 0 (by decide) xo_63 hM.1 hM.2.1 (by omega) (by decide); rw [show G (63 + 1) (4 * j + 0) = p2 from (hM.2.2 _ (by omega)).trans hp2] at e9; exact e9) ?_
    refine z_iload d_X11_meets_128 rfl ?_
    refine z_isub d_X11_meets_130 (by omega) ?_
    refine z_iload d_X11_meets_131 rfl ?_
    refine z_imul d_X11_meets_133 (by omega) ?_
    refine z_iload d_X11_meets_134 rfl ?_
    refine z_imul d_X11_meets_136 (by omega) ?_
    refine z_iload d_X11_meets_137 rfl ?_
    refine z_iload d_X11_meets_139 rfl ?_
    refine z_imul d_X11_meets_141 (by omega) ?_
    refine z_iload d_X11_meets_142 rfl ?_
    refine z_imul d_X11_meets_144 (by omega) ?_
    refine z_iadd d_X11_meets_145 (by omega) ?_
    refine z_iload d_X11_meets_146 rfl ?_
    refine z_aload d_X11_meets_148 rfl ?_
    refine z_iload_n d_X11_meets_150 rfl rfl ?_
    refine z_iconst d_X11_meets_151 (by decide) ?_
    refine z_cv (M1 := M_X6_cell) d_X11_meets_152 lv_X11_132 k_X6_cell [qI (j : Int), qI 1] rfl rfl (xput_ob (c := (F 63)) xi_63 rfl (xsh_6 xo_63)) ⟨_, _, rfl⟩ (Nat.le_of_ble_eq_true rfl) (by decide) (by decide) (Nat.le_of_ble_eq_true rfl) (by have e9 := c_rwC (h := h) (F := F) (G := G) (q := 63) (L := K) j 1 (by decide) xo_63 hM.1 hM.2.1 (by omega) (by decide); rw [show G (63 + 1) (4 * j + 1) = s2 from (hM.2.2 _ (by omega)).trans hs2] at e9; exact e9) ?_
    refine z_imul d_X11_meets_155 (by omega) ?_
    refine z_iload d_X11_meets_156 rfl ?_
    refine z_imul d_X11_meets_158 (by omega) ?_
    refine z_isub d_X11_meets_159 (by omega) ?_
    refine z_eq rfl (qc (qi (show (((((p2 - p) * b) * d) + ((a * s) * d)) - ((c * s2) * b)) = ((p2 - p) * b * d + s * a * d - s2 * c * b) from by rw [Int.mul_comm a s, Int.mul_comm c s2])) rfl) rfl ?_
    refine z_istore (ls' := [qR 2, qI (i : Int), qI (j : Int), qI 1, qR 63, qI p, qI s, qI a, qI b, qI c, qI d, qI ((a * d) - (c * b)), qI ((p2 - p) * b * d + s * a * d - s2 * c * b)]) d_X11_meets_160 (by decide) rfl ?_
    refine z_iload_n d_X11_meets_162 rfl rfl ?_
    refine z_iconst d_X11_meets_163 (by decide) ?_
    refine z_icmp_ge 185 d_X11_meets_164 (by decide) (fun hc5 => absurd hc5 (by decide)) (fun hc5 => ?_)
    refine z_iload d_X11_meets_167 rfl ?_
    refine z_iload d_X11_meets_169 rfl ?_
    refine z_iload_n d_X11_meets_171 rfl rfl ?_
    refine z_iconst d_X11_meets_172 (by decide) ?_
    refine z_icmp_ne 180 d_X11_meets_173 (by decide) (fun hc6 => absurd hc6 (by decide)) (fun hc6 => ?_)
    refine z_iconst d_X11_meets_176 (by decide) ?_
    refine z_goto 181 d_X11_meets_177 (by decide) ?_
    refine z_cs (M1 := M_X11_partOf) d_X11_meets_181 ls_X11_437 k_X11_partOf [qI ((p2 - p) * b * d + s * a * d - s2 * c * b), qI ((a * d) - (c * b)), qI 1] rfl rfl (Nat.le_of_ble_eq_true rfl) (by decide) (by decide) (Nat.le_of_ble_eq_true rfl) (c_part0 ((p2 - p) * b * d + s * a * d - s2 * c * b) ((a * d) - (c * b)) (by omega) (by omega) (by omega)) ?_
    exact z_iret d_X11_meets_184 rfl (qer er (qif_f (by omega))) eh
  · refine z_ldcw (n := -10000000) d_X11_meets_117 ct_X11_436 (by decide) (by decide) ?_
    exact z_iret d_X11_meets_120 rfl (qer er (qif_t (by omega))) eh
set_option maxRecDepth 20000 in
set_option maxHeartbeats 4000000 in
theorem xc_meets2 {h : qH} {F G : Nat → Nat → Int} {K : Nat} {MK : Nat → Int} (i j : Nat) {p s a b p2 s2 c d : Int} (hM : rwR F G 63 K MK) (hi : i < K) (hj : j < K) (hij : i ≠ j) (hp : MK (4 * i) = p) (hs : MK (4 * i + 1) = s) (ha : MK (4 * i + 2) = a) (hb : MK (4 * i + 3) = b) (hp2 : MK (4 * j) = p2) (hs2 : MK (4 * j + 1) = s2) (hc : MK (4 * j + 2) = c) (hd : MK (4 * j + 3) = d) (bp : 0 ≤ p ∧ p ≤ 99) (bs : 0 ≤ s ∧ s ≤ 99) (ba : -9 ≤ a ∧ a ≤ 9) (bb : 1 ≤ b ∧ b ≤ 9) (bp2 : 0 ≤ p2 ∧ p2 ≤ 99) (bs2 : 0 ≤ s2 ∧ s2 ≤ 99) (bc : -9 ≤ c ∧ c ≤ 9) (bd : 1 ≤ d ∧ d ≤ 9) : qEx M_X11_meets 0 [qR 2, qI (i : Int), qI (j : Int), qI 2, qU, qU, qU, qU, qU, qU, qU, qU, qU] [] (xput h F G) (some (qI (qif ((a * d - c * b) = 0) (-10000000) (lowR (p * b * (a * d - c * b) + (((p2 - p) * b * d + s * a * d - s2 * c * b) - s * (a * d - c * b)) * a) (b * (a * d - c * b)) 1)))) (xput h F G) := by
  refine q_gen (fun r hr er eh => ?_)
  have m1 := mulb (x := a) (y := d) 9 9 81 (by omega) (by omega) rfl
  have m2 := mulb (x := c) (y := b) 9 9 81 (by omega) (by omega) rfl
  have m3 := mulb (x := p2 - p) (y := b) 99 9 891 (by omega) (by omega) rfl
  have m4 := mulb (x := (p2 - p) * b) (y := d) 891 9 8019 (by omega) (by omega) rfl
  have m5 := mulb (x := a) (y := s) 9 99 891 (by omega) (by omega) rfl
  have m6 := mulb (x := a * s) (y := d) 891 9 8019 (by omega) (by omega) rfl
  have m7 := mulb (x := c) (y := s2) 9 99 891 (by omega) (by omega) rfl
  have m8 := mulb (x := c * s2) (y := b) 891 9 8019 (by omega) (by omega) rfl
  have k5 := mulb (x := s) (y := a) 99 9 891 (by omega) (by omega) rfl
  have k6 := mulb (x := s * a) (y := d) 891 9 8019 (by omega) (by omega) rfl
  have k7 := mulb (x := s2) (y := c) 99 9 891 (by omega) (by omega) rfl
  have k8 := mulb (x := s2 * c) (y := b) 891 9 8019 (by omega) (by omega) rfl
  have m9 := mulb (x := p) (y := b) 99 9 891 (by omega) (by omega) rfl
  have n1 := mulb (x := p * b) (y := (a * d - c * b)) 891 162 144342 (by omega) (by omega) rfl
  have n2 := mulb (x := s) (y := (a * d - c * b)) 99 162 16038 (by omega) (by omega) rfl
  have n3 := mulb (x := a) (y := ((p2 - p) * b * d + s * a * d - s2 * c * b) - s * (a * d - c * b)) 9 40095 360855 (by omega) (by omega) rfl
  have n3b := mulb (x := ((p2 - p) * b * d + s * a * d - s2 * c * b) - s * (a * d - c * b)) (y := a) 40095 9 360855 (by omega) (by omega) rfl
  have n4 := mulb (x := b) (y := (a * d - c * b)) 9 162 1458 (by omega) (by omega) rfl
  have n5 : (a * d - c * b) ≠ 0 → b * (a * d - c * b) ≠ 0 := fun z => Int.mul_ne_zero (by omega) z
  refine z_aload_n d_X11_meets_0 rfl rfl ?_
  refine z_getf (v := qR 3) d_X11_meets_1 fl_X11_12 (xput_ob (c := (F 2)) xi_2 rfl (xsh_11 xo_2)) rfl ?_
  refine z_getf (v := qR 63) d_X11_meets_4 fl_X11_426 (xput_ob (c := (F 3)) xi_3 rfl (xsh_8 xo_3)) rfl ?_
  refine z_astore (ls' := [qR 2, qI (i : Int), qI (j : Int), qI 2, qR 63, qU, qU, qU, qU, qU, qU, qU, qU]) d_X11_meets_7 (by decide) rfl ?_
  refine z_iload_n d_X11_meets_9 rfl rfl ?_
  refine z_iload_n d_X11_meets_10 rfl rfl ?_
  refine z_icmp_eq 41 d_X11_meets_11 (by decide) (fun hc1 => absurd hc1 (by omega)) (fun hc1 => ?_)
  refine z_aload d_X11_meets_14 rfl ?_
  refine z_iload_n d_X11_meets_16 rfl rfl ?_
  refine z_cv (M1 := M_X6_has) d_X11_meets_17 lv_X11_435 k_X6_has [qI (i : Int)] rfl rfl (xput_ob (c := (F 63)) xi_63 rfl (xsh_6 xo_63)) ⟨_, _, rfl⟩ (Nat.le_of_ble_eq_true rfl) (by decide) (by decide) (Nat.le_of_ble_eq_true rfl) (c_rwHas (q := 63) (L := K) (i : Int) (by decide) xo_63 hM.1 hM.2.1) ?_
  refine z_ifeqB 41 d_X11_meets_20 (by decide) (fun hc2 => absurd hc2 (by omega)) (fun hc2 => ?_)
  refine z_aload d_X11_meets_23 rfl ?_
  refine z_iload_n d_X11_meets_25 rfl rfl ?_
  refine z_cv (M1 := M_X6_has) d_X11_meets_26 lv_X11_435 k_X6_has [qI (j : Int)] rfl rfl (xput_ob (c := (F 63)) xi_63 rfl (xsh_6 xo_63)) ⟨_, _, rfl⟩ (Nat.le_of_ble_eq_true rfl) (by decide) (by decide) (Nat.le_of_ble_eq_true rfl) (c_rwHas (q := 63) (L := K) (j : Int) (by decide) xo_63 hM.1 hM.2.1) ?_
  refine z_ifeqB 41 d_X11_meets_29 (by decide) (fun hc3 => absurd hc3 (by omega)) (fun hc3 => ?_)
  refine z_iload_n d_X11_meets_32 rfl rfl ?_
  refine z_iconst d_X11_meets_33 (by decide) ?_
  refine z_iconst d_X11_meets_34 (by decide) ?_
  refine z_cs (M1 := M_X11_isWithin) d_X11_meets_35 ls_X11_62 k_X11_isWithin [qI 2, qI 0, qI 3] rfl rfl (Nat.le_of_ble_eq_true rfl) (by decide) (by decide) (Nat.le_of_ble_eq_true rfl) (c_isWithin 2 0 3) ?_
  refine z_ifneB 45 d_X11_meets_38 (by decide) (fun hc4 => ?_) (fun hc4 => absurd hc4 (by omega))
  refine z_aload d_X11_meets_45 rfl ?_
  refine z_iload_n d_X11_meets_47 rfl rfl ?_
  refine z_iconst d_X11_meets_48 (by decide) ?_
  refine z_cv (M1 := M_X6_cell) d_X11_meets_49 lv_X11_132 k_X6_cell [qI (i : Int), qI 0] rfl rfl (xput_ob (c := (F 63)) xi_63 rfl (xsh_6 xo_63)) ⟨_, _, rfl⟩ (Nat.le_of_ble_eq_true rfl) (by decide) (by decide) (Nat.le_of_ble_eq_true rfl) (by have e9 := c_rwC (h := h) (F := F) (G := G) (q := 63) (L := K) i 0 (by decide) xo_63 hM.1 hM.2.1 (by omega) (by decide); rw [show G (63 + 1) (4 * i + 0) = p from (hM.2.2 _ (by omega)).trans hp] at e9; exact e9) ?_
  refine z_istore (ls' := [qR 2, qI (i : Int), qI (j : Int), qI 2, qR 63, qI p, qU, qU, qU, qU, qU, qU, qU]) d_X11_meets_52 (by decide) rfl ?_
  refine z_aload d_X11_meets_54 rfl ?_
  refine z_iload_n d_X11_meets_56 rfl rfl ?_
  refine z_iconst d_X11_meets_57 (by decide) ?_
  refine z_cv (M1 := M_X6_cell) d_X11_meets_58 lv_X11_132 k_X6_cell [qI (i : Int), qI 1] rfl rfl (xput_ob (c := (F 63)) xi_63 rfl (xsh_6 xo_63)) ⟨_, _, rfl⟩ (Nat.le_of_ble_eq_true rfl) (by decide) (by decide) (Nat.le_of_ble_eq_true rfl) (by have e9 := c_rwC (h := h) (F := F) (G := G) (q := 63) (L := K) i 1 (by decide) xo_63 hM.1 hM.2.1 (by omega) (by decide); rw [show G (63 + 1) (4 * i + 1) = s from (hM.2.2 _ (by omega)).trans hs] at e9; exact e9) ?_
  refine z_istore (ls' := [qR 2, qI (i : Int), qI (j : Int), qI 2, qR 63, qI p, qI s, qU, qU, qU, qU, qU, qU]) d_X11_meets_61 (by decide) rfl ?_
  refine z_aload d_X11_meets_63 rfl ?_
  refine z_iload_n d_X11_meets_65 rfl rfl ?_
  refine z_iconst d_X11_meets_66 (by decide) ?_
  refine z_cv (M1 := M_X6_cell) d_X11_meets_67 lv_X11_132 k_X6_cell [qI (i : Int), qI 2] rfl rfl (xput_ob (c := (F 63)) xi_63 rfl (xsh_6 xo_63)) ⟨_, _, rfl⟩ (Nat.le_of_ble_eq_true rfl) (by decide) (by decide) (Nat.le_of_ble_eq_true rfl) (by have e9 := c_rwC (h := h) (F := F) (G := G) (q := 63) (L := K) i 2 (by decide) xo_63 hM.1 hM.2.1 (by omega) (by decide); rw [show G (63 + 1) (4 * i + 2) = a from (hM.2.2 _ (by omega)).trans ha] at e9; exact e9) ?_
  refine z_istore (ls' := [qR 2, qI (i : Int), qI (j : Int), qI 2, qR 63, qI p, qI s, qI a, qU, qU, qU, qU, qU]) d_X11_meets_70 (by decide) rfl ?_
  refine z_aload d_X11_meets_72 rfl ?_
  refine z_iload_n d_X11_meets_74 rfl rfl ?_
  refine z_iconst d_X11_meets_75 (by decide) ?_
  refine z_cv (M1 := M_X6_cell) d_X11_meets_76 lv_X11_132 k_X6_cell [qI (i : Int), qI 3] rfl rfl (xput_ob (c := (F 63)) xi_63 rfl (xsh_6 xo_63)) ⟨_, _, rfl⟩ (Nat.le_of_ble_eq_true rfl) (by decide) (by decide) (Nat.le_of_ble_eq_true rfl) (by have e9 := c_rwC (h := h) (F := F) (G := G) (q := 63) (L := K) i 3 (by decide) xo_63 hM.1 hM.2.1 (by omega) (by decide); rw [show G (63 + 1) (4 * i + 3) = b from (hM.2.2 _ (by omega)).trans hb] at e9; exact e9) ?_
  refine z_istore (ls' := [qR 2, qI (i : Int), qI (j : Int), qI 2, qR 63, qI p, qI s, qI a, qI b, qU, qU, qU, qU]) d_X11_meets_79 (by decide) rfl ?_
  refine z_aload d_X11_meets_81 rfl ?_
  refine z_iload_n d_X11_meets_83 rfl rfl ?_
  refine z_iconst d_X11_meets_84 (by decide) ?_
  refine z_cv (M1 := M_X6_cell) d_X11_meets_85 lv_X11_132 k_X6_cell [qI (j : Int), qI 2] rfl rfl (xput_ob (c := (F 63)) xi_63 rfl (xsh_6 xo_63)) ⟨_, _, rfl⟩ (Nat.le_of_ble_eq_true rfl) (by decide) (by decide) (Nat.le_of_ble_eq_true rfl) (by have e9 := c_rwC (h := h) (F := F) (G := G) (q := 63) (L := K) j 2 (by decide) xo_63 hM.1 hM.2.1 (by omega) (by decide); rw [show G (63 + 1) (4 * j + 2) = c from (hM.2.2 _ (by omega)).trans hc] at e9; exact e9) ?_
  refine z_istore (ls' := [qR 2, qI (i : Int), qI (j : Int), qI 2, qR 63, qI p, qI s, qI a, qI b, qI c, qU, qU, qU]) d_X11_meets_88 (by decide) rfl ?_
  refine z_aload d_X11_meets_90 rfl ?_
  refine z_iload_n d_X11_meets_92 rfl rfl ?_
  refine z_iconst d_X11_meets_93 (by decide) ?_
  refine z_cv (M1 := M_X6_cell) d_X11_meets_94 lv_X11_132 k_X6_cell [qI (j : Int), qI 3] rfl rfl (xput_ob (c := (F 63)) xi_63 rfl (xsh_6 xo_63)) ⟨_, _, rfl⟩ (Nat.le_of_ble_eq_true rfl) (by decide) (by decide) (Nat.le_of_ble_eq_true rfl) (by have e9 := c_rwC (h := h) (F := F) (G := G) (q := 63) (L := K) j 3 (by decide) xo_63 hM.1 hM.2.1 (by omega) (by decide); rw [show G (63 + 1) (4 * j + 3) = d from (hM.2.2 _ (by omega)).trans hd] at e9; exact e9) ?_
  refine z_istore (ls' := [qR 2, qI (i : Int), qI (j : Int), qI 2, qR 63, qI p, qI s, qI a, qI b, qI c, qI d, qU, qU]) d_X11_meets_97 (by decide) rfl ?_
  refine z_iload d_X11_meets_99 rfl ?_
  refine z_iload d_X11_meets_101 rfl ?_
  refine z_imul d_X11_meets_103 (by omega) ?_
  refine z_iload d_X11_meets_104 rfl ?_
  refine z_iload d_X11_meets_106 rfl ?_
  refine z_imul d_X11_meets_108 (by omega) ?_
  refine z_isub d_X11_meets_109 (by omega) ?_
  refine z_istore (ls' := [qR 2, qI (i : Int), qI (j : Int), qI 2, qR 63, qI p, qI s, qI a, qI b, qI c, qI d, qI ((a * d) - (c * b)), qU]) d_X11_meets_110 (by decide) rfl ?_
  refine z_iload d_X11_meets_112 rfl ?_
  refine z_if_ne 121 d_X11_meets_114 (by decide) (fun hz => ?_) (fun hz => ?_)
  · refine z_aload d_X11_meets_121 rfl ?_
    refine z_iload_n d_X11_meets_123 rfl rfl ?_
    refine z_iconst d_X11_meets_124 (by decide) ?_
    refine z_cv (M1 := M_X6_cell) d_X11_meets_125 lv_X11_132 k_X6_cell [qI (j : Int), qI 0] rfl rfl (xput_ob (c := (F 63)) xi_63 rfl (xsh_6 xo_63)) ⟨_, _, rfl⟩ (Nat.le_of_ble_eq_true rfl) (by decide) (by decide) (Nat.le_of_ble_eq_true rfl) (by have e9 := c_rwC (h := h) (F := F) (G := G) (q := 63) (L := K) j 0 (by decide) xo_63 hM.1 hM.2.1 (by omega) (by decide); rw [show G (63 + 1) (4 * j + 0) = p2 from (hM.2.2 _ (by omega)).trans hp2] at e9; exact e9) ?_
    refine z_iload d_X11_meets_128 rfl ?_
    refine z_isub d_X11_meets_130 (by omega) ?_
    refine z_iload d_X11_meets_131 rfl ?_
    refine z_imul d_X11_meets_133 (by omega) ?_
    refine z_iload d_X11_meets_134 rfl ?_
    refine z_imul d_X11_meets_136 (by omega) ?_
    refine z_iload d_X11_meets_137 rfl ?_
    refine z_iload d_X11_meets_139 rfl ?_
    refine z_imul d_X11_meets_141 (by omega) ?_
    refine z_iload d_X11_meets_142 rfl ?_
    refine z_imul d_X11_meets_144 (by omega) ?_
    refine z_iadd d_X11_meets_145 (by omega) ?_
    refine z_iload d_X11_meets_146 rfl ?_
    refine z_aload d_X11_meets_148 rfl ?_
    refine z_iload_n d_X11_meets_150 rfl rfl ?_
    refine z_iconst d_X11_meets_151 (by decide) ?_
    refine z_cv (M1 := M_X6_cell) d_X11_meets_152 lv_X11_132 k_X6_cell [qI (j : Int), qI 1] rfl rfl (xput_ob (c := (F 63)) xi_63 rfl (xsh_6 xo_63)) ⟨_, _, rfl⟩ (Nat.le_of_ble_eq_true rfl) (by decide) (by decide) (Nat.le_of_ble_eq_true rfl) (by have e9 := c_rwC (h := h) (F := F) (G := G) (q := 63) (L := K) j 1 (by decide) xo_63 hM.1 hM.2.1 (by omega) (by decide); rw [show G (63 + 1) (4 * j + 1) = s2 from (hM.2.2 _ (by omega)).trans hs2] at e9; exact e9) ?_
    refine z_imul d_X11_meets_155 (by omega) ?_
    refine z_iload d_X11_meets_156 rfl ?_
    refine z_imul d_X11_meets_158 (by omega) ?_
    refine z_isub d_X11_meets_159 (by omega) ?_
    refine z_eq rfl (qc (qi (show (((((p2 - p) * b) * d) + ((a * s) * d)) - ((c * s2) * b)) = ((p2 - p) * b * d + s * a * d - s2 * c * b) from by rw [Int.mul_comm a s, Int.mul_comm c s2])) rfl) rfl ?_
    refine z_istore (ls' := [qR 2, qI (i : Int), qI (j : Int), qI 2, qR 63, qI p, qI s, qI a, qI b, qI c, qI d, qI ((a * d) - (c * b)), qI ((p2 - p) * b * d + s * a * d - s2 * c * b)]) d_X11_meets_160 (by decide) rfl ?_
    refine z_iload_n d_X11_meets_162 rfl rfl ?_
    refine z_iconst d_X11_meets_163 (by decide) ?_
    refine z_icmp_ge 185 d_X11_meets_164 (by decide) (fun hc5 => ?_) (fun hc5 => absurd (by decide) hc5)
    refine z_iload d_X11_meets_185 rfl ?_
    refine z_iload d_X11_meets_187 rfl ?_
    refine z_imul d_X11_meets_189 (by omega) ?_
    refine z_iload d_X11_meets_190 rfl ?_
    refine z_imul d_X11_meets_192 (by omega) ?_
    refine z_iload d_X11_meets_193 rfl ?_
    refine z_iload d_X11_meets_195 rfl ?_
    refine z_iload d_X11_meets_197 rfl ?_
    refine z_iload d_X11_meets_199 rfl ?_
    refine z_imul d_X11_meets_201 (by omega) ?_
    refine z_isub d_X11_meets_202 (by omega) ?_
    refine z_imul d_X11_meets_203 (by omega) ?_
    refine z_iadd d_X11_meets_204 (by omega) ?_
    refine z_eq rfl (qc (qi (show (((p * b) * ((a * d) - (c * b))) + (a * (((p2 - p) * b * d + s * a * d - s2 * c * b) - (s * ((a * d) - (c * b)))))) = (p * b * (a * d - c * b) + (((p2 - p) * b * d + s * a * d - s2 * c * b) - s * (a * d - c * b)) * a) from congrArg (p * b * (a * d - c * b) + ·) (Int.mul_comm a _))) rfl) rfl ?_
    refine z_iload d_X11_meets_205 rfl ?_
    refine z_iload d_X11_meets_207 rfl ?_
    refine z_imul d_X11_meets_209 (by omega) ?_
    refine z_iload_n d_X11_meets_210 rfl rfl ?_
    refine z_iconst d_X11_meets_211 (by decide) ?_
    refine z_icmp_ne 219 d_X11_meets_212 (by decide) (fun hc6 => ?_) (fun hc6 => absurd (by decide) hc6)
    refine z_iconst d_X11_meets_219 (by decide) ?_
    refine z_cs (M1 := M_X11_partOf) d_X11_meets_220 ls_X11_437 k_X11_partOf [qI (p * b * (a * d - c * b) + (((p2 - p) * b * d + s * a * d - s2 * c * b) - s * (a * d - c * b)) * a), qI (b * ((a * d) - (c * b))), qI 0] rfl rfl (Nat.le_of_ble_eq_true rfl) (by decide) (by decide) (Nat.le_of_ble_eq_true rfl) (c_part1 (p * b * (a * d - c * b) + (((p2 - p) * b * d + s * a * d - s2 * c * b) - s * (a * d - c * b)) * a) (b * ((a * d) - (c * b))) (by omega) (by omega) (by omega)) ?_
    exact z_iret d_X11_meets_223 rfl (qer er (qif_f (by omega))) eh
  · refine z_ldcw (n := -10000000) d_X11_meets_117 ct_X11_436 (by decide) (by decide) ?_
    exact z_iret d_X11_meets_120 rfl (qer er (qif_t (by omega))) eh
set_option maxRecDepth 20000 in
set_option maxHeartbeats 4000000 in
theorem xc_meets3 {h : qH} {F G : Nat → Nat → Int} {K : Nat} {MK : Nat → Int} (i j : Nat) {p s a b p2 s2 c d : Int} (hM : rwR F G 63 K MK) (hi : i < K) (hj : j < K) (hij : i ≠ j) (hp : MK (4 * i) = p) (hs : MK (4 * i + 1) = s) (ha : MK (4 * i + 2) = a) (hb : MK (4 * i + 3) = b) (hp2 : MK (4 * j) = p2) (hs2 : MK (4 * j + 1) = s2) (hc : MK (4 * j + 2) = c) (hd : MK (4 * j + 3) = d) (bp : 0 ≤ p ∧ p ≤ 99) (bs : 0 ≤ s ∧ s ≤ 99) (ba : -9 ≤ a ∧ a ≤ 9) (bb : 1 ≤ b ∧ b ≤ 9) (bp2 : 0 ≤ p2 ∧ p2 ≤ 99) (bs2 : 0 ≤ s2 ∧ s2 ≤ 99) (bc : -9 ≤ c ∧ c ≤ 9) (bd : 1 ≤ d ∧ d ≤ 9) : qEx M_X11_meets 0 [qR 2, qI (i : Int), qI (j : Int), qI 3, qU, qU, qU, qU, qU, qU, qU, qU, qU] [] (xput h F G) (some (qI (qif ((a * d - c * b) = 0) (-10000000) (lowR (p * b * (a * d - c * b) + (((p2 - p) * b * d + s * a * d - s2 * c * b) - s * (a * d - c * b)) * a) (b * (a * d - c * b)) 0)))) (xput h F G) := by
  refine q_gen (fun r hr er eh => ?_)
  have m1 := mulb (x := a) (y := d) 9 9 81 (by omega) (by omega) rfl
  have m2 := mulb (x := c) (y := b) 9 9 81 (by omega) (by omega) rfl
  have m3 := mulb (x := p2 - p) (y := b) 99 9 891 (by omega) (by omega) rfl
  have m4 := mulb (x := (p2 - p) * b) (y := d) 891 9 8019 (by omega) (by omega) rfl
  have m5 := mulb (x := a) (y := s) 9 99 891 (by omega) (by omega) rfl
  have m6 := mulb (x := a * s) (y := d) 891 9 8019 (by omega) (by omega) rfl
  have m7 := mulb (x := c) (y := s2) 9 99 891 (by omega) (by omega) rfl
  have m8 := mulb (x := c * s2) (y := b) 891 9 8019 (by omega) (by omega) rfl
  have k5 := mulb (x := s) (y := a) 99 9 891 (by omega) (by omega) rfl
  have k6 := mulb (x := s * a) (y := d) 891 9 8019 (by omega) (by omega) rfl
  have k7 := mulb (x := s2) (y := c) 99 9 891 (by omega) (by omega) rfl
  have k8 := mulb (x := s2 * c) (y := b) 891 9 8019 (by omega) (by omega) rfl
  have m9 := mulb (x := p) (y := b) 99 9 891 (by omega) (by omega) rfl
  have n1 := mulb (x := p * b) (y := (a * d - c * b)) 891 162 144342 (by omega) (by omega) rfl
  have n2 := mulb (x := s) (y := (a * d - c * b)) 99 162 16038 (by omega) (by omega) rfl
  have n3 := mulb (x := a) (y := ((p2 - p) * b * d + s * a * d - s2 * c * b) - s * (a * d - c * b)) 9 40095 360855 (by omega) (by omega) rfl
  have n3b := mulb (x := ((p2 - p) * b * d + s * a * d - s2 * c * b) - s * (a * d - c * b)) (y := a) 40095 9 360855 (by omega) (by omega) rfl
  have n4 := mulb (x := b) (y := (a * d - c * b)) 9 162 1458 (by omega) (by omega) rfl
  have n5 : (a * d - c * b) ≠ 0 → b * (a * d - c * b) ≠ 0 := fun z => Int.mul_ne_zero (by omega) z
  refine z_aload_n d_X11_meets_0 rfl rfl ?_
  refine z_getf (v := qR 3) d_X11_meets_1 fl_X11_12 (xput_ob (c := (F 2)) xi_2 rfl (xsh_11 xo_2)) rfl ?_
  refine z_getf (v := qR 63) d_X11_meets_4 fl_X11_426 (xput_ob (c := (F 3)) xi_3 rfl (xsh_8 xo_3)) rfl ?_
  refine z_astore (ls' := [qR 2, qI (i : Int), qI (j : Int), qI 3, qR 63, qU, qU, qU, qU, qU, qU, qU, qU]) d_X11_meets_7 (by decide) rfl ?_
  refine z_iload_n d_X11_meets_9 rfl rfl ?_
  refine z_iload_n d_X11_meets_10 rfl rfl ?_
  refine z_icmp_eq 41 d_X11_meets_11 (by decide) (fun hc1 => absurd hc1 (by omega)) (fun hc1 => ?_)
  refine z_aload d_X11_meets_14 rfl ?_
  refine z_iload_n d_X11_meets_16 rfl rfl ?_
  refine z_cv (M1 := M_X6_has) d_X11_meets_17 lv_X11_435 k_X6_has [qI (i : Int)] rfl rfl (xput_ob (c := (F 63)) xi_63 rfl (xsh_6 xo_63)) ⟨_, _, rfl⟩ (Nat.le_of_ble_eq_true rfl) (by decide) (by decide) (Nat.le_of_ble_eq_true rfl) (c_rwHas (q := 63) (L := K) (i : Int) (by decide) xo_63 hM.1 hM.2.1) ?_
  refine z_ifeqB 41 d_X11_meets_20 (by decide) (fun hc2 => absurd hc2 (by omega)) (fun hc2 => ?_)
  refine z_aload d_X11_meets_23 rfl ?_
  refine z_iload_n d_X11_meets_25 rfl rfl ?_
  refine z_cv (M1 := M_X6_has) d_X11_meets_26 lv_X11_435 k_X6_has [qI (j : Int)] rfl rfl (xput_ob (c := (F 63)) xi_63 rfl (xsh_6 xo_63)) ⟨_, _, rfl⟩ (Nat.le_of_ble_eq_true rfl) (by decide) (by decide) (Nat.le_of_ble_eq_true rfl) (c_rwHas (q := 63) (L := K) (j : Int) (by decide) xo_63 hM.1 hM.2.1) ?_
  refine z_ifeqB 41 d_X11_meets_29 (by decide) (fun hc3 => absurd hc3 (by omega)) (fun hc3 => ?_)
  refine z_iload_n d_X11_meets_32 rfl rfl ?_
  refine z_iconst d_X11_meets_33 (by decide) ?_
  refine z_iconst d_X11_meets_34 (by decide) ?_
  refine z_cs (M1 := M_X11_isWithin) d_X11_meets_35 ls_X11_62 k_X11_isWithin [qI 3, qI 0, qI 3] rfl rfl (Nat.le_of_ble_eq_true rfl) (by decide) (by decide) (Nat.le_of_ble_eq_true rfl) (c_isWithin 3 0 3) ?_
  refine z_ifneB 45 d_X11_meets_38 (by decide) (fun hc4 => ?_) (fun hc4 => absurd hc4 (by omega))
  refine z_aload d_X11_meets_45 rfl ?_
  refine z_iload_n d_X11_meets_47 rfl rfl ?_
  refine z_iconst d_X11_meets_48 (by decide) ?_
  refine z_cv (M1 := M_X6_cell) d_X11_meets_49 lv_X11_132 k_X6_cell [qI (i : Int), qI 0] rfl rfl (xput_ob (c := (F 63)) xi_63 rfl (xsh_6 xo_63)) ⟨_, _, rfl⟩ (Nat.le_of_ble_eq_true rfl) (by decide) (by decide) (Nat.le_of_ble_eq_true rfl) (by have e9 := c_rwC (h := h) (F := F) (G := G) (q := 63) (L := K) i 0 (by decide) xo_63 hM.1 hM.2.1 (by omega) (by decide); rw [show G (63 + 1) (4 * i + 0) = p from (hM.2.2 _ (by omega)).trans hp] at e9; exact e9) ?_
  refine z_istore (ls' := [qR 2, qI (i : Int), qI (j : Int), qI 3, qR 63, qI p, qU, qU, qU, qU, qU, qU, qU]) d_X11_meets_52 (by decide) rfl ?_
  refine z_aload d_X11_meets_54 rfl ?_
  refine z_iload_n d_X11_meets_56 rfl rfl ?_
  refine z_iconst d_X11_meets_57 (by decide) ?_
  refine z_cv (M1 := M_X6_cell) d_X11_meets_58 lv_X11_132 k_X6_cell [qI (i : Int), qI 1] rfl rfl (xput_ob (c := (F 63)) xi_63 rfl (xsh_6 xo_63)) ⟨_, _, rfl⟩ (Nat.le_of_ble_eq_true rfl) (by decide) (by decide) (Nat.le_of_ble_eq_true rfl) (by have e9 := c_rwC (h := h) (F := F) (G := G) (q := 63) (L := K) i 1 (by decide) xo_63 hM.1 hM.2.1 (by omega) (by decide); rw [show G (63 + 1) (4 * i + 1) = s from (hM.2.2 _ (by omega)).trans hs] at e9; exact e9) ?_
  refine z_istore (ls' := [qR 2, qI (i : Int), qI (j : Int), qI 3, qR 63, qI p, qI s, qU, qU, qU, qU, qU, qU]) d_X11_meets_61 (by decide) rfl ?_
  refine z_aload d_X11_meets_63 rfl ?_
  refine z_iload_n d_X11_meets_65 rfl rfl ?_
  refine z_iconst d_X11_meets_66 (by decide) ?_
  refine z_cv (M1 := M_X6_cell) d_X11_meets_67 lv_X11_132 k_X6_cell [qI (i : Int), qI 2] rfl rfl (xput_ob (c := (F 63)) xi_63 rfl (xsh_6 xo_63)) ⟨_, _, rfl⟩ (Nat.le_of_ble_eq_true rfl) (by decide) (by decide) (Nat.le_of_ble_eq_true rfl) (by have e9 := c_rwC (h := h) (F := F) (G := G) (q := 63) (L := K) i 2 (by decide) xo_63 hM.1 hM.2.1 (by omega) (by decide); rw [show G (63 + 1) (4 * i + 2) = a from (hM.2.2 _ (by omega)).trans ha] at e9; exact e9) ?_
  refine z_istore (ls' := [qR 2, qI (i : Int), qI (j : Int), qI 3, qR 63, qI p, qI s, qI a, qU, qU, qU, qU, qU]) d_X11_meets_70 (by decide) rfl ?_
  refine z_aload d_X11_meets_72 rfl ?_
  refine z_iload_n d_X11_meets_74 rfl rfl ?_
  refine z_iconst d_X11_meets_75 (by decide) ?_
  refine z_cv (M1 := M_X6_cell) d_X11_meets_76 lv_X11_132 k_X6_cell [qI (i : Int), qI 3] rfl rfl (xput_ob (c := (F 63)) xi_63 rfl (xsh_6 xo_63)) ⟨_, _, rfl⟩ (Nat.le_of_ble_eq_true rfl) (by decide) (by decide) (Nat.le_of_ble_eq_true rfl) (by have e9 := c_rwC (h := h) (F := F) (G := G) (q := 63) (L := K) i 3 (by decide) xo_63 hM.1 hM.2.1 (by omega) (by decide); rw [show G (63 + 1) (4 * i + 3) = b from (hM.2.2 _ (by omega)).trans hb] at e9; exact e9) ?_
  refine z_istore (ls' := [qR 2, qI (i : Int), qI (j : Int), qI 3, qR 63, qI p, qI s, qI a, qI b, qU, qU, qU, qU]) d_X11_meets_79 (by decide) rfl ?_
  refine z_aload d_X11_meets_81 rfl ?_
  refine z_iload_n d_X11_meets_83 rfl rfl ?_
  refine z_iconst d_X11_meets_84 (by decide) ?_
  refine z_cv (M1 := M_X6_cell) d_X11_meets_85 lv_X11_132 k_X6_cell [qI (j : Int), qI 2] rfl rfl (xput_ob (c := (F 63)) xi_63 rfl (xsh_6 xo_63)) ⟨_, _, rfl⟩ (Nat.le_of_ble_eq_true rfl) (by decide) (by decide) (Nat.le_of_ble_eq_true rfl) (by have e9 := c_rwC (h := h) (F := F) (G := G) (q := 63) (L := K) j 2 (by decide) xo_63 hM.1 hM.2.1 (by omega) (by decide); rw [show G (63 + 1) (4 * j + 2) = c from (hM.2.2 _ (by omega)).trans hc] at e9; exact e9) ?_
  refine z_istore (ls' := [qR 2, qI (i : Int), qI (j : Int), qI 3, qR 63, qI p, qI s, qI a, qI b, qI c, qU, qU, qU]) d_X11_meets_88 (by decide) rfl ?_
  refine z_aload d_X11_meets_90 rfl ?_
  refine z_iload_n d_X11_meets_92 rfl rfl ?_
  refine z_iconst d_X11_meets_93 (by decide) ?_
  refine z_cv (M1 := M_X6_cell) d_X11_meets_94 lv_X11_132 k_X6_cell [qI (j : Int), qI 3] rfl rfl (xput_ob (c := (F 63)) xi_63 rfl (xsh_6 xo_63)) ⟨_, _, rfl⟩ (Nat.le_of_ble_eq_true rfl) (by decide) (by decide) (Nat.le_of_ble_eq_true rfl) (by have e9 := c_rwC (h := h) (F := F) (G := G) (q := 63) (L := K) j 3 (by decide) xo_63 hM.1 hM.2.1 (by omega) (by decide); rw [show G (63 + 1) (4 * j + 3) = d from (hM.2.2 _ (by omega)).trans hd] at e9; exact e9) ?_
  refine z_istore (ls' := [qR 2, qI (i : Int), qI (j : Int), qI 3, qR 63, qI p, qI s, qI a, qI b, qI c, qI d, qU, qU]) d_X11_meets_97 (by decide) rfl ?_
  refine z_iload d_X11_meets_99 rfl ?_
  refine z_iload d_X11_meets_101 rfl ?_
  refine z_imul d_X11_meets_103 (by omega) ?_
  refine z_iload d_X11_meets_104 rfl ?_
  refine z_iload d_X11_meets_106 rfl ?_
  refine z_imul d_X11_meets_108 (by omega) ?_
  refine z_isub d_X11_meets_109 (by omega) ?_
  refine z_istore (ls' := [qR 2, qI (i : Int), qI (j : Int), qI 3, qR 63, qI p, qI s, qI a, qI b, qI c, qI d, qI ((a * d) - (c * b)), qU]) d_X11_meets_110 (by decide) rfl ?_
  refine z_iload d_X11_meets_112 rfl ?_
  refine z_if_ne 121 d_X11_meets_114 (by decide) (fun hz => ?_) (fun hz => ?_)
  · refine z_aload d_X11_meets_121 rfl ?_
    refine z_iload_n d_X11_meets_123 rfl rfl ?_
    refine z_iconst d_X11_meets_124 (by decide) ?_
    refine z_cv (M1 := M_X6_cell) d_X11_meets_125 lv_X11_132 k_X6_cell [qI (j : Int), qI 0] rfl rfl (xput_ob (c := (F 63)) xi_63 rfl (xsh_6 xo_63)) ⟨_, _, rfl⟩ (Nat.le_of_ble_eq_true rfl) (by decide) (by decide) (Nat.le_of_ble_eq_true rfl) (by have e9 := c_rwC (h := h) (F := F) (G := G) (q := 63) (L := K) j 0 (by decide) xo_63 hM.1 hM.2.1 (by omega) (by decide); rw [show G (63 + 1) (4 * j + 0) = p2 from (hM.2.2 _ (by omega)).trans hp2] at e9; exact e9) ?_
    refine z_iload d_X11_meets_128 rfl ?_
    refine z_isub d_X11_meets_130 (by omega) ?_
    refine z_iload d_X11_meets_131 rfl ?_
    refine z_imul d_X11_meets_133 (by omega) ?_
    refine z_iload d_X11_meets_134 rfl ?_
    refine z_imul d_X11_meets_136 (by omega) ?_
    refine z_iload d_X11_meets_137 rfl ?_
    refine z_iload d_X11_meets_139 rfl ?_
    refine z_imul d_X11_meets_141 (by omega) ?_
    refine z_iload d_X11_meets_142 rfl ?_
    refine z_imul d_X11_meets_144 (by omega) ?_
    refine z_iadd d_X11_meets_145 (by omega) ?_
    refine z_iload d_X11_meets_146 rfl ?_
    refine z_aload d_X11_meets_148 rfl ?_
    refine z_iload_n d_X11_meets_150 rfl rfl ?_
    refine z_iconst d_X11_meets_151 (by decide) ?_
    refine z_cv (M1 := M_X6_cell) d_X11_meets_152 lv_X11_132 k_X6_cell [qI (j : Int), qI 1] rfl rfl (xput_ob (c := (F 63)) xi_63 rfl (xsh_6 xo_63)) ⟨_, _, rfl⟩ (Nat.le_of_ble_eq_true rfl) (by decide) (by decide) (Nat.le_of_ble_eq_true rfl) (by have e9 := c_rwC (h := h) (F := F) (G := G) (q := 63) (L := K) j 1 (by decide) xo_63 hM.1 hM.2.1 (by omega) (by decide); rw [show G (63 + 1) (4 * j + 1) = s2 from (hM.2.2 _ (by omega)).trans hs2] at e9; exact e9) ?_
    refine z_imul d_X11_meets_155 (by omega) ?_
    refine z_iload d_X11_meets_156 rfl ?_
    refine z_imul d_X11_meets_158 (by omega) ?_
    refine z_isub d_X11_meets_159 (by omega) ?_
    refine z_eq rfl (qc (qi (show (((((p2 - p) * b) * d) + ((a * s) * d)) - ((c * s2) * b)) = ((p2 - p) * b * d + s * a * d - s2 * c * b) from by rw [Int.mul_comm a s, Int.mul_comm c s2])) rfl) rfl ?_
    refine z_istore (ls' := [qR 2, qI (i : Int), qI (j : Int), qI 3, qR 63, qI p, qI s, qI a, qI b, qI c, qI d, qI ((a * d) - (c * b)), qI ((p2 - p) * b * d + s * a * d - s2 * c * b)]) d_X11_meets_160 (by decide) rfl ?_
    refine z_iload_n d_X11_meets_162 rfl rfl ?_
    refine z_iconst d_X11_meets_163 (by decide) ?_
    refine z_icmp_ge 185 d_X11_meets_164 (by decide) (fun hc5 => ?_) (fun hc5 => absurd (by decide) hc5)
    refine z_iload d_X11_meets_185 rfl ?_
    refine z_iload d_X11_meets_187 rfl ?_
    refine z_imul d_X11_meets_189 (by omega) ?_
    refine z_iload d_X11_meets_190 rfl ?_
    refine z_imul d_X11_meets_192 (by omega) ?_
    refine z_iload d_X11_meets_193 rfl ?_
    refine z_iload d_X11_meets_195 rfl ?_
    refine z_iload d_X11_meets_197 rfl ?_
    refine z_iload d_X11_meets_199 rfl ?_
    refine z_imul d_X11_meets_201 (by omega) ?_
    refine z_isub d_X11_meets_202 (by omega) ?_
    refine z_imul d_X11_meets_203 (by omega) ?_
    refine z_iadd d_X11_meets_204 (by omega) ?_
    refine z_eq rfl (qc (qi (show (((p * b) * ((a * d) - (c * b))) + (a * (((p2 - p) * b * d + s * a * d - s2 * c * b) - (s * ((a * d) - (c * b)))))) = (p * b * (a * d - c * b) + (((p2 - p) * b * d + s * a * d - s2 * c * b) - s * (a * d - c * b)) * a) from congrArg (p * b * (a * d - c * b) + ·) (Int.mul_comm a _))) rfl) rfl ?_
    refine z_iload d_X11_meets_205 rfl ?_
    refine z_iload d_X11_meets_207 rfl ?_
    refine z_imul d_X11_meets_209 (by omega) ?_
    refine z_iload_n d_X11_meets_210 rfl rfl ?_
    refine z_iconst d_X11_meets_211 (by decide) ?_
    refine z_icmp_ne 219 d_X11_meets_212 (by decide) (fun hc6 => absurd hc6 (by decide)) (fun hc6 => ?_)
    refine z_iconst d_X11_meets_215 (by decide) ?_
    refine z_goto 220 d_X11_meets_216 (by decide) ?_
    refine z_cs (M1 := M_X11_partOf) d_X11_meets_220 ls_X11_437 k_X11_partOf [qI (p * b * (a * d - c * b) + (((p2 - p) * b * d + s * a * d - s2 * c * b) - s * (a * d - c * b)) * a), qI (b * ((a * d) - (c * b))), qI 1] rfl rfl (Nat.le_of_ble_eq_true rfl) (by decide) (by decide) (Nat.le_of_ble_eq_true rfl) (c_part0 (p * b * (a * d - c * b) + (((p2 - p) * b * d + s * a * d - s2 * c * b) - s * (a * d - c * b)) * a) (b * ((a * d) - (c * b))) (by omega) (by omega) (by omega)) ?_
    exact z_iret d_X11_meets_223 rfl (qer er (qif_f (by omega))) eh
  · refine z_ldcw (n := -10000000) d_X11_meets_117 ct_X11_436 (by decide) (by decide) ?_
    exact z_iret d_X11_meets_120 rfl (qer er (qif_t (by omega))) eh
