/-! ===== CONTRACTS: rounds ===== -/
def pk4 (F : Nat → Int) (o : Nat) : Nat → Int
  | 0 => 0
  | i + 1 => 16 * pk4 F o i + F (o + i)
theorem pk4_bd {F : Nat → Int} {o : Nat} : ∀ i, (∀ j, j < i → 0 ≤ F (o + j) ∧ F (o + j) ≤ 7) → 0 ≤ pk4 F o i ∧ 2 * pk4 F o i < ((16 ^ i : Nat) : Int)
  | 0, _ => by show 0 ≤ (0 : Int) ∧ 2 * (0 : Int) < ((16 ^ 0 : Nat) : Int); decide
  | i + 1, h => by
    have h1 := pk4_bd i (fun j hj => h j (by omega))
    have h2 := h i (by omega)
    show 0 ≤ 16 * pk4 F o i + F (o + i) ∧ 2 * (16 * pk4 F o i + F (o + i)) < ((16 ^ (i + 1) : Nat) : Int)
    rw [Nat.pow_succ]
    omega
theorem pk4_bd16 {F : Nat → Int} {o i : Nat} (hi : i ≤ 15) (h : ∀ j, j < i → 0 ≤ F (o + j) ∧ F (o + j) ≤ 7) : 0 ≤ pk4 F o i ∧ pk4 F o i < 576460752303423488 := by
  have h1 := pk4_bd i h
  have h2 : 16 ^ i ≤ 16 ^ 15 := Nat.pow_le_pow_right (by decide) hi
  rw [show (16 : Nat) ^ 15 = 1152921504606846976 from rfl] at h2
  omega
theorem pk4_inj {F F' : Nat → Int} {o : Nat} : ∀ i, (∀ j, j < i → 0 ≤ F (o + j) ∧ F (o + j) ≤ 7) → (∀ j, j < i → 0 ≤ F' (o + j) ∧ F' (o + j) ≤ 7) → (pk4 F o i = pk4 F' o i ↔ ∀ j, j < i → F (o + j) = F' (o + j))
  | 0, _, _ => ⟨fun _ j hj => absurd hj (by omega), fun _ => rfl⟩
  | i + 1, h, h' => by
    have ih := pk4_inj i (fun j hj => h j (by omega)) (fun j hj => h' j (by omega))
    have a := h i (by omega)
    have b := h' i (by omega)
    show 16 * pk4 F o i + F (o + i) = 16 * pk4 F' o i + F' (o + i) ↔ _
    constructor
    · intro e
      have e1 : pk4 F o i = pk4 F' o i := by omega
      have e2 : F (o + i) = F' (o + i) := by omega
      exact q_lts (ih.mp e1) e2
    · intro hj
      rw [ih.mpr (fun j hj2 => hj j (by omega)), hj i (by omega)]
theorem pk4_cg {F F' : Nat → Int} {o : Nat} : ∀ i, (∀ j, j < i → F (o + j) = F' (o + j)) → pk4 F o i = pk4 F' o i
  | 0, _ => rfl
  | i + 1, h => by
    show 16 * pk4 F o i + F (o + i) = 16 * pk4 F' o i + F' (o + i)
    rw [pk4_cg i (fun j hj => h j (by omega)), h i (by omega)]
theorem shl4 {v f : Int} (hv : 0 ≤ v ∧ v < 576460752303423488) (hf : 0 ≤ f ∧ f < 16) : qLor (qLshl v 4) f = 16 * v + f := by
  have e1 : (Int64.ofInt v).toBitVec.toNat = v.toNat := by
    show (BitVec.ofInt 64 v).toNat = v.toNat
    rw [BitVec.toNat_ofInt]
    omega
  have e2 : (Int64.ofInt f).toBitVec.toNat = f.toNat := by
    show (BitVec.ofInt 64 f).toNat = f.toNat
    rw [BitVec.toNat_ofInt]
    omega
  have es : (((Int32.ofInt 4).toInt64 &&& 63 : Int64).toBitVec.smod 64) = 4#64 := by decide
  have e3 : (Int64.ofInt (qLshl v 4)).toBitVec = (Int64.ofInt v).toBitVec <<< 4 := by
    unfold qLshl
    rw [Int64.ofInt_toInt, Int64.toBitVec_shiftLeft, es]
    rfl
  have e4 : (Int64.ofInt (qLshl v 4) ||| Int64.ofInt f).toBitVec.toNat = 16 * v.toNat + f.toNat := by
    rw [Int64.toBitVec_or, BitVec.toNat_or, e3, BitVec.toNat_shiftLeft, e1, e2, Nat.shiftLeft_eq, Nat.mod_eq_of_lt (by omega), ← Nat.shiftLeft_eq, ← Nat.shiftLeft_add_eq_or_of_lt (by omega), Nat.shiftLeft_eq]
    omega
  unfold qLor
  rw [← Int64.toInt_toBitVec, BitVec.toInt_eq_toNat_cond, e4]
  rw [if_pos (by omega)]
  omega
set_option maxRecDepth 20000 in
set_option maxHeartbeats 4000000 in
theorem c_packed {h : qH} {a : Nat} {M : Nat → Int} (o t : Nat) (e0 : h.2.2 a = qAr 0 32 M) (ht : t ≤ 32) (ho : o ≤ 16) (hm : t - o ≤ 16) (hM : ∀ k, k < 32 → 0 ≤ M k ∧ M k ≤ 7) : qEx M_X5_packed 0 [qR a, qI (o : Int), qI (t : Int), qU, qU, qU] [] h (some (qL (pk4 M o (t - o)))) h := by
  refine q_gen (fun r hr er eh => ?_)
  refine z_lconst d_X5_packed_0 (z := 0) (by decide) ?_
  refine z_lstore_n (ls' := [qR a, qI (o : Int), qI (t : Int), qL 0, qU, qU]) d_X5_packed_1 rfl (by decide) rfl ?_
  refine z_iload_n d_X5_packed_2 rfl rfl ?_
  refine z_istore (ls' := [qR a, qI (o : Int), qI (t : Int), qL 0, qU, qI (o : Int)]) d_X5_packed_3 (by decide) rfl ?_
  refine z_eq (qc rfl (qc rfl (qc rfl (qc (ql (rfl)) (qc rfl (qc (qi (by omega)) rfl)))))) rfl rfl (z_for (t - o) (fun i => [qR a, qI (o : Int), qI (t : Int), qL (pk4 M o i), qU, qI (((o + i) : Nat) : Int)]) (fun i => h) (fun i => True) trivial (fun i hii hp kki => ?_) (fun hp => ?_))
  · show qEx M_X5_packed 5 [qR a, qI (o : Int), qI (t : Int), qL (pk4 M o i), qU, qI (((o + i) : Nat) : Int)] [] h r hr
    have hMi := hM (o + i) (by omega)
    have hpk := pk4_bd16 (F := M) (o := o) (i := i) (by omega) (fun j hj => hM _ (by omega))
    refine z_iload d_X5_packed_5 rfl ?_
    refine z_iload_n d_X5_packed_7 rfl rfl ?_
    refine z_icmp_ge 27 d_X5_packed_8 (by decide) (fun hc1 => absurd hc1 (by omega)) (fun hc1 => ?_)
    refine z_lload_n d_X5_packed_11 rfl rfl ?_
    refine z_iconst d_X5_packed_12 (by decide) ?_
    refine z_lshl d_X5_packed_13 ?_
    refine z_aload_n d_X5_packed_14 rfl rfl ?_
    refine z_iload d_X5_packed_15 rfl ?_
    refine z_ild (o + i) d_X5_packed_17 e0 rfl (by omega) ?_
    refine z_i2l d_X5_packed_18 ?_
    refine z_lor d_X5_packed_19 ?_
    refine z_lstore_n (ls' := [qR a, qI (o : Int), qI (t : Int), qL (qLor (qLshl (pk4 M o i) 4) (M (o + i))), qU, qI (((o + i) : Nat) : Int)]) d_X5_packed_20 rfl (by decide) rfl ?_
    refine z_iinc (ls' := [qR a, qI (o : Int), qI (t : Int), qL (qLor (qLshl (pk4 M o i) 4) (M (o + i))), qU, qI ((((o + i) : Nat) : Int) + 1)]) d_X5_packed_21 rfl (by decide) (by omega) rfl ?_
    refine z_goto 5 d_X5_packed_24 (by decide) ?_
    exact z_eq (qc rfl (qc rfl (qc rfl (qc (ql ((shl4 hpk (by omega)))) (qc rfl (qc (qi (by omega)) rfl)))))) rfl rfl (kki trivial)
  · show qEx M_X5_packed 5 [qR a, qI (o : Int), qI (t : Int), qL (pk4 M o (t - o)), qU, qI (((o + (t - o)) : Nat) : Int)] [] h r hr
    refine z_iload d_X5_packed_5 rfl ?_
    refine z_iload_n d_X5_packed_7 rfl rfl ?_
    refine z_icmp_ge 27 d_X5_packed_8 (by decide) (fun hc2 => ?_) (fun hc2 => absurd hc2 (by omega))
    refine z_lload_n d_X5_packed_27 rfl rfl ?_
    exact z_lret d_X5_packed_28 rfl er eh
def pkL (M : Nat → Int) (n : Nat) : Int := pk4 M 0 (min n 16)
def pkH (M : Nat → Int) (n : Nat) : Int := pk4 M 16 (n - 16)
set_option maxRecDepth 20000 in
set_option maxHeartbeats 4000000 in
theorem c_write {h : qH} {F G : Nat → Nat → Int} {a n : Nat} (p : Nat) (ha : xAr a 0 32) (hn : n ≤ 32) (hN : F 207 0 = (n : Int)) (hp : p < 2002) (hM : ∀ k, k < 32 → 0 ≤ G a k ∧ G a k ≤ 7) : qEx M_X5_write 0 [qR 206, qI (p : Int), qR a] [] (xput h F G) none (xput h F (gup (gup G 212 (qup (G 212) p (pkL (G a) n))) 213 (qup (G 213) p (pkH (G a) n)))) := by
  refine q_gen (fun r hr er eh => ?_)
  have ha212 : a ≠ 212 := fun z => by subst z; exact absurd ha.2.2.1 (by decide)
  have ha213 : a ≠ 213 := fun z => by subst z; exact absurd ha.2.2.1 (by decide)
  refine z_aload_n d_X5_write_0 rfl rfl ?_
  refine z_getf (v := qR 212) d_X5_write_1 fl_X5_18 (xput_ob (c := (F 206)) xi_206 rfl (xsh_5 xo_206)) rfl ?_
  refine z_iload_n d_X5_write_4 rfl rfl ?_
  refine z_aload_n d_X5_write_5 rfl rfl ?_
  refine z_iconst d_X5_write_6 (by decide) ?_
  refine z_aload_n d_X5_write_7 rfl rfl ?_
  refine z_getf (v := qR 207) d_X5_write_8 fl_X5_12 (xput_ob (c := (F 206)) xi_206 rfl (xsh_5 xo_206)) rfl ?_
  refine z_getf (v := qI ((F 207) 0)) d_X5_write_11 fl_X5_67 (xput_ob (c := (F 207)) xi_207 rfl (xsh_10 xo_207)) rfl ?_
  refine z_eq rfl (qc (qi hN) rfl) rfl ?_
  refine z_bipush d_X5_write_14 (by decide) ?_
  refine z_min d_X5_write_16 lb_X5_70 (by decide) (Nat.le_of_ble_eq_true rfl) ?_
  refine z_eq rfl (qc (qi (show (if 16 < (n : Int) then 16 else (n : Int)) = (((min n 16) : Nat) : Int) from by split <;> omega)) rfl) rfl ?_
  refine z_cs (M1 := M_X5_packed) d_X5_write_19 ls_X5_76 k_X5_packed [qR a, qI 0, qI (((min n 16) : Nat) : Int)] rfl rfl (Nat.le_of_ble_eq_true rfl) (by decide) (by decide) (Nat.le_of_ble_eq_true rfl) (z_end (c_packed 0 (min n 16) (xput_ar (g := (G a)) ha rfl) (by omega) (by decide) (by omega) hM) (show _ = some (qL (pkL (G a) n)) from rfl) rfl) ?_
  refine z_lst p d_X5_write_22 (xput_ar (g := (G 212)) xa_212 rfl) (by omega) rfl (by omega) ?_
  refine z_eq rfl rfl (xput_sa xa_212) ?_
  refine z_aload_n d_X5_write_23 rfl rfl ?_
  refine z_getf (v := qR 213) d_X5_write_24 fl_X5_22 (xput_ob (c := (F 206)) xi_206 rfl (xsh_5 xo_206)) rfl ?_
  refine z_iload_n d_X5_write_27 rfl rfl ?_
  refine z_aload_n d_X5_write_28 rfl rfl ?_
  refine z_bipush d_X5_write_29 (by decide) ?_
  refine z_aload_n d_X5_write_31 rfl rfl ?_
  refine z_getf (v := qR 207) d_X5_write_32 fl_X5_12 (xput_ob (c := (F 206)) xi_206 rfl (xsh_5 xo_206)) rfl ?_
  refine z_getf (v := qI ((F 207) 0)) d_X5_write_35 fl_X5_67 (xput_ob (c := (F 207)) xi_207 rfl (xsh_10 xo_207)) rfl ?_
  refine z_eq rfl (qc (qi hN) rfl) rfl ?_
  refine z_cs (M1 := M_X5_packed) d_X5_write_38 ls_X5_76 k_X5_packed [qR a, qI 16, qI (n : Int)] rfl rfl (Nat.le_of_ble_eq_true rfl) (by decide) (by decide) (Nat.le_of_ble_eq_true rfl) (z_end (c_packed 16 n (xput_ar (g := (G a)) ha (gup_ne (by omega))) (by omega) (by decide) (by omega) hM) (show _ = some (qL (pkH (G a) n)) from rfl) rfl) ?_
  refine z_lst p d_X5_write_41 (xput_ar (g := (G 213)) xa_213 rfl) (by omega) rfl (by omega) ?_
  refine z_eq rfl rfl (xput_sa xa_213) ?_
  exact z_vret d_X5_write_42 rfl er eh
def smP (G : Nat → Nat → Int) (s t : Nat) : Prop := (G 212 s = G 212 t ∧ G 213 s = G 213 t) ∧ G 212 (s + 1) = G 212 (t + 1) ∧ G 213 (s + 1) = G 213 (t + 1)
def bkX (m : Int) : Int := qLxor (qLxor m (qLushr m 32)) (qLushr (qLxor m (qLushr m 32)) 16)
def bkU (a b c d : Int) : Int := qAnd (qL2i (qLxor (bkX (qLadd (qLmul (qLadd (qLmul (qLadd (qLmul a 31) b) 31) c) 31) d)) (qLushr (bkX (qLadd (qLmul (qLadd (qLmul (qLadd (qLmul a 31) b) 31) c) 31) d)) 8))) 1023
def bkT9 (G : Nat → Nat → Int) (t : Nat) : Int := bkU (G 212 t) (G 213 t) (G 212 (t + 1)) (G 213 (t + 1))
theorem bkU_bd (a b c d : Int) : 0 ≤ bkU a b c d ∧ bkU a b c d ≤ 1023 := by
  unfold bkU
  generalize qL2i _ = x
  have h : ∀ k, k < 32 → tb (qAnd x 1023) k = (tb x k && tb 1023 k) := fun k _ => tb_and x 1023 k
  have e := msk_uN0 (x := x) (m := 1023) (by decide) (by decide)
  have hle : uN x &&& (1023 : Int).toNat ≤ (1023 : Int).toNat := Nat.and_le_right
  rw [e]
  have : (1023 : Int).toNat = 1023 := rfl
  omega
theorem smP_bk {G : Nat → Nat → Int} {s t : Nat} (h : smP G s t) : bkT9 G s = bkT9 G t := by
  unfold bkT9
  rw [h.1.1, h.1.2, h.2.1, h.2.2]
set_option maxRecDepth 20000 in
set_option maxHeartbeats 4000000 in
theorem c_same9 {h : qH} {F G : Nat → Nat → Int} (t s : Nat) (ht : t ≤ 2000) (hs : s ≤ 2000) : qEx M_X5_isSame 0 [qR 206, qI (t : Int), qI (s : Int)] [] (xput h F G) (some (qI (qb (smP G s t)))) (xput h F G) := by
  refine q_gen (fun r hr er eh => ?_)
  refine z_aload_n d_X5_isSame_0 rfl rfl ?_
  refine z_getf (v := qR 212) d_X5_isSame_1 fl_X5_18 (xput_ob (c := (F 206)) xi_206 rfl (xsh_5 xo_206)) rfl ?_
  refine z_iload_n d_X5_isSame_4 rfl rfl ?_
  refine z_lld t d_X5_isSame_5 (xput_ar (g := (G 212)) xa_212 rfl) rfl (by omega) ?_
  refine z_aload_n d_X5_isSame_6 rfl rfl ?_
  refine z_getf (v := qR 212) d_X5_isSame_7 fl_X5_18 (xput_ob (c := (F 206)) xi_206 rfl (xsh_5 xo_206)) rfl ?_
  refine z_iload_n d_X5_isSame_10 rfl rfl ?_
  refine z_lld s d_X5_isSame_11 (xput_ar (g := (G 212)) xa_212 rfl) rfl (by omega) ?_
  refine z_lcmp d_X5_isSame_12 ?_
  refine z_if_ne 76 d_X5_isSame_13 (by decide) (fun q1 => ?_) (fun q1 => ?_)
  · refine z_iconst d_X5_isSame_76 (by decide) ?_
    exact z_zret d_X5_isSame_77 rfl (by first | exact qb_01 _ | decide | omega) (qer er (qb_f (fun z => q1 (lc_rf z.1.1.symm)))) eh
  · refine z_aload_n d_X5_isSame_16 rfl rfl ?_
    refine z_getf (v := qR 213) d_X5_isSame_17 fl_X5_22 (xput_ob (c := (F 206)) xi_206 rfl (xsh_5 xo_206)) rfl ?_
    refine z_iload_n d_X5_isSame_20 rfl rfl ?_
    refine z_lld t d_X5_isSame_21 (xput_ar (g := (G 213)) xa_213 rfl) rfl (by omega) ?_
    refine z_aload_n d_X5_isSame_22 rfl rfl ?_
    refine z_getf (v := qR 213) d_X5_isSame_23 fl_X5_22 (xput_ob (c := (F 206)) xi_206 rfl (xsh_5 xo_206)) rfl ?_
    refine z_iload_n d_X5_isSame_26 rfl rfl ?_
    refine z_lld s d_X5_isSame_27 (xput_ar (g := (G 213)) xa_213 rfl) rfl (by omega) ?_
    refine z_lcmp d_X5_isSame_28 ?_
    refine z_if_ne 76 d_X5_isSame_29 (by decide) (fun q2 => ?_) (fun q2 => ?_)
    · refine z_iconst d_X5_isSame_76 (by decide) ?_
      exact z_zret d_X5_isSame_77 rfl (by first | exact qb_01 _ | decide | omega) (qer er (qb_f (fun z => q2 (lc_rf z.1.2.symm)))) eh
    · refine z_aload_n d_X5_isSame_32 rfl rfl ?_
      refine z_getf (v := qR 212) d_X5_isSame_33 fl_X5_18 (xput_ob (c := (F 206)) xi_206 rfl (xsh_5 xo_206)) rfl ?_
      refine z_iload_n d_X5_isSame_36 rfl rfl ?_
      refine z_iconst d_X5_isSame_37 (by decide) ?_
      refine z_iadd d_X5_isSame_38 (by omega) ?_
      refine z_lld (t + 1) d_X5_isSame_39 (xput_ar (g := (G 212)) xa_212 rfl) rfl (by omega) ?_
      refine z_aload_n d_X5_isSame_40 rfl rfl ?_
      refine z_getf (v := qR 212) d_X5_isSame_41 fl_X5_18 (xput_ob (c := (F 206)) xi_206 rfl (xsh_5 xo_206)) rfl ?_
      refine z_iload_n d_X5_isSame_44 rfl rfl ?_
      refine z_iconst d_X5_isSame_45 (by decide) ?_
      refine z_iadd d_X5_isSame_46 (by omega) ?_
      refine z_lld (s + 1) d_X5_isSame_47 (xput_ar (g := (G 212)) xa_212 rfl) rfl (by omega) ?_
      refine z_lcmp d_X5_isSame_48 ?_
      refine z_if_ne 76 d_X5_isSame_49 (by decide) (fun q3 => ?_) (fun q3 => ?_)
      · refine z_iconst d_X5_isSame_76 (by decide) ?_
        exact z_zret d_X5_isSame_77 rfl (by first | exact qb_01 _ | decide | omega) (qer er (qb_f (fun z => q3 (lc_rf z.2.1.symm)))) eh
      · refine z_aload_n d_X5_isSame_52 rfl rfl ?_
        refine z_getf (v := qR 213) d_X5_isSame_53 fl_X5_22 (xput_ob (c := (F 206)) xi_206 rfl (xsh_5 xo_206)) rfl ?_
        refine z_iload_n d_X5_isSame_56 rfl rfl ?_
        refine z_iconst d_X5_isSame_57 (by decide) ?_
        refine z_iadd d_X5_isSame_58 (by omega) ?_
        refine z_lld (t + 1) d_X5_isSame_59 (xput_ar (g := (G 213)) xa_213 rfl) rfl (by omega) ?_
        refine z_aload_n d_X5_isSame_60 rfl rfl ?_
        refine z_getf (v := qR 213) d_X5_isSame_61 fl_X5_22 (xput_ob (c := (F 206)) xi_206 rfl (xsh_5 xo_206)) rfl ?_
        refine z_iload_n d_X5_isSame_64 rfl rfl ?_
        refine z_iconst d_X5_isSame_65 (by decide) ?_
        refine z_iadd d_X5_isSame_66 (by omega) ?_
        refine z_lld (s + 1) d_X5_isSame_67 (xput_ar (g := (G 213)) xa_213 rfl) rfl (by omega) ?_
        refine z_lcmp d_X5_isSame_68 ?_
        refine z_if_ne 76 d_X5_isSame_69 (by decide) (fun q4 => ?_) (fun q4 => ?_)
        · refine z_iconst d_X5_isSame_76 (by decide) ?_
          exact z_zret d_X5_isSame_77 rfl (by first | exact qb_01 _ | decide | omega) (qer er (qb_f (fun z => q4 (lc_rf z.2.2.symm)))) eh
        · refine z_iconst d_X5_isSame_72 (by decide) ?_
          refine z_goto 77 d_X5_isSame_73 (by decide) ?_
          exact z_zret d_X5_isSame_77 rfl (by first | exact qb_01 _ | decide | omega) (qer er (qb_t ⟨⟨(lc_eq (Classical.not_not.mp q1)).symm, (lc_eq (Classical.not_not.mp q2)).symm⟩, (lc_eq (Classical.not_not.mp q3)).symm, (lc_eq (Classical.not_not.mp q4)).symm⟩)) eh
set_option maxRecDepth 20000 in
set_option maxHeartbeats 4000000 in
theorem c_bucket {h : qH} {F G : Nat → Nat → Int} (t : Nat) (ht : t ≤ 2000) : qEx M_X5_bucketOf 0 [qR 206, qI (t : Int), qU, qU] [] (xput h F G) (some (qI (bkT9 G t))) (xput h F G) := by
  refine q_gen (fun r hr er eh => ?_)
  refine z_aload_n d_X5_bucketOf_0 rfl rfl ?_
  refine z_getf (v := qR 212) d_X5_bucketOf_1 fl_X5_18 (xput_ob (c := (F 206)) xi_206 rfl (xsh_5 xo_206)) rfl ?_
  refine z_iload_n d_X5_bucketOf_4 rfl rfl ?_
  refine z_lld t d_X5_bucketOf_5 (xput_ar (g := (G 212)) xa_212 rfl) rfl (by omega) ?_
  refine z_ldc2 (n := 31) d_X5_bucketOf_6 cq_X5_87 (by decide) (by decide) ?_
  refine z_lmulw d_X5_bucketOf_9 ?_
  refine z_aload_n d_X5_bucketOf_10 rfl rfl ?_
  refine z_getf (v := qR 213) d_X5_bucketOf_11 fl_X5_22 (xput_ob (c := (F 206)) xi_206 rfl (xsh_5 xo_206)) rfl ?_
  refine z_iload_n d_X5_bucketOf_14 rfl rfl ?_
  refine z_lld t d_X5_bucketOf_15 (xput_ar (g := (G 213)) xa_213 rfl) rfl (by omega) ?_
  refine z_laddw d_X5_bucketOf_16 ?_
  refine z_ldc2 (n := 31) d_X5_bucketOf_17 cq_X5_87 (by decide) (by decide) ?_
  refine z_lmulw d_X5_bucketOf_20 ?_
  refine z_aload_n d_X5_bucketOf_21 rfl rfl ?_
  refine z_getf (v := qR 212) d_X5_bucketOf_22 fl_X5_18 (xput_ob (c := (F 206)) xi_206 rfl (xsh_5 xo_206)) rfl ?_
  refine z_iload_n d_X5_bucketOf_25 rfl rfl ?_
  refine z_iconst d_X5_bucketOf_26 (by decide) ?_
  refine z_iadd d_X5_bucketOf_27 (by omega) ?_
  refine z_lld (t + 1) d_X5_bucketOf_28 (xput_ar (g := (G 212)) xa_212 rfl) rfl (by omega) ?_
  refine z_laddw d_X5_bucketOf_29 ?_
  refine z_ldc2 (n := 31) d_X5_bucketOf_30 cq_X5_87 (by decide) (by decide) ?_
  refine z_lmulw d_X5_bucketOf_33 ?_
  refine z_aload_n d_X5_bucketOf_34 rfl rfl ?_
  refine z_getf (v := qR 213) d_X5_bucketOf_35 fl_X5_22 (xput_ob (c := (F 206)) xi_206 rfl (xsh_5 xo_206)) rfl ?_
  refine z_iload_n d_X5_bucketOf_38 rfl rfl ?_
  refine z_iconst d_X5_bucketOf_39 (by decide) ?_
  refine z_iadd d_X5_bucketOf_40 (by omega) ?_
  refine z_lld (t + 1) d_X5_bucketOf_41 (xput_ar (g := (G 213)) xa_213 rfl) rfl (by omega) ?_
  refine z_laddw d_X5_bucketOf_42 ?_
  refine z_lstore_n (ls' := [qR 206, qI (t : Int), qL (qLadd (qLmul (qLadd (qLmul (qLadd (qLmul ((G 212) t) 31) ((G 213) t)) 31) ((G 212) (t + 1))) 31) ((G 213) (t + 1))), qU]) d_X5_bucketOf_43 rfl (by decide) rfl ?_
  refine z_lload_n d_X5_bucketOf_44 rfl rfl ?_
  refine z_lload_n d_X5_bucketOf_45 rfl rfl ?_
  refine z_bipush d_X5_bucketOf_46 (by decide) ?_
  refine z_lushr d_X5_bucketOf_48 ?_
  refine z_lxor d_X5_bucketOf_49 ?_
  refine z_lstore_n (ls' := [qR 206, qI (t : Int), qL (qLxor (qLadd (qLmul (qLadd (qLmul (qLadd (qLmul ((G 212) t) 31) ((G 213) t)) 31) ((G 212) (t + 1))) 31) ((G 213) (t + 1))) (qLushr (qLadd (qLmul (qLadd (qLmul (qLadd (qLmul ((G 212) t) 31) ((G 213) t)) 31) ((G 212) (t + 1))) 31) ((G 213) (t + 1))) 32)), qU]) d_X5_bucketOf_50 rfl (by decide) rfl ?_
  refine z_lload_n d_X5_bucketOf_51 rfl rfl ?_
  refine z_lload_n d_X5_bucketOf_52 rfl rfl ?_
  refine z_bipush d_X5_bucketOf_53 (by decide) ?_
  refine z_lushr d_X5_bucketOf_55 ?_
  refine z_lxor d_X5_bucketOf_56 ?_
  refine z_lstore_n (ls' := [qR 206, qI (t : Int), qL (qLxor (qLxor (qLadd (qLmul (qLadd (qLmul (qLadd (qLmul ((G 212) t) 31) ((G 213) t)) 31) ((G 212) (t + 1))) 31) ((G 213) (t + 1))) (qLushr (qLadd (qLmul (qLadd (qLmul (qLadd (qLmul ((G 212) t) 31) ((G 213) t)) 31) ((G 212) (t + 1))) 31) ((G 213) (t + 1))) 32)) (qLushr (qLxor (qLadd (qLmul (qLadd (qLmul (qLadd (qLmul ((G 212) t) 31) ((G 213) t)) 31) ((G 212) (t + 1))) 31) ((G 213) (t + 1))) (qLushr (qLadd (qLmul (qLadd (qLmul (qLadd (qLmul ((G 212) t) 31) ((G 213) t)) 31) ((G 212) (t + 1))) 31) ((G 213) (t + 1))) 32)) 16)), qU]) d_X5_bucketOf_57 rfl (by decide) rfl ?_
  refine z_lload_n d_X5_bucketOf_58 rfl rfl ?_
  refine z_lload_n d_X5_bucketOf_59 rfl rfl ?_
  refine z_bipush d_X5_bucketOf_60 (by decide) ?_
  refine z_lushr d_X5_bucketOf_62 ?_
  refine z_lxor d_X5_bucketOf_63 ?_
  refine z_l2i d_X5_bucketOf_64 ?_
  refine z_sipush d_X5_bucketOf_65 (by decide) ?_
  refine z_iand d_X5_bucketOf_68 ?_
  exact z_iret d_X5_bucketOf_69 rfl er eh
