/-! ===== CONTRACTS: fill, floorMod; the reference's static methods over arrays ===== -/
set_option maxRecDepth 20000 in
set_option maxHeartbeats 4000000 in
theorem c_fill {h : qH} {a n : Nat} {f : Nat → Int} {v : Int} (e0 : h.2.2 a = qAr 0 n f) (ha : a ≠ 1) (hn : n ≤ 100000) : qEx M_J7_fill_53178 0 [qR a, qI v, qU, qU] [] h none (qset h a (qAr 0 n (qmx n (fun _ => v) f))) := by
  refine q_gen (fun r hr er eh => ?_)
  refine z_iconst d_J7_fill_53178_0 (by decide) ?_
  refine z_istore_n (ls' := [qR a, qI v, qI 0, qU]) d_J7_fill_53178_1 rfl (by decide) rfl ?_
  refine z_aload_n d_J7_fill_53178_2 rfl rfl ?_
  refine z_alen d_J7_fill_53178_3 e0 (by omega) ?_
  refine z_istore_n (ls' := [qR a, qI v, qI 0, qI (n : Int)]) d_J7_fill_53178_4 rfl (by decide) rfl ?_
  refine z_eq (qc rfl (qc rfl (qc (qi (by omega)) (qc rfl rfl)))) rfl (by rw [qmx_0, qset_self e0]) (z_for n (fun i => [qR a, qI v, qI (i : Int), qI (n : Int)]) (fun i => (qset h a (qAr 0 n (qmx i (fun _ => v) f)))) (fun i => True) trivial (fun i hii hp kki => ?_) (fun hp => ?_))
  · show qEx M_J7_fill_53178 5 [qR a, qI v, qI (i : Int), qI (n : Int)] [] (qset h a (qAr 0 n (qmx i (fun _ => v) f))) r hr
    refine z_iload_n d_J7_fill_53178_5 rfl rfl ?_
    refine z_iload_n d_J7_fill_53178_6 rfl rfl ?_
    refine z_icmp_ge 20 d_J7_fill_53178_7 (by decide) (fun hc1 => absurd hc1 (by omega)) (fun hc1 => ?_)
    refine z_aload_n d_J7_fill_53178_10 rfl rfl ?_
    refine z_iload_n d_J7_fill_53178_11 rfl rfl ?_
    refine z_iload_n d_J7_fill_53178_12 rfl rfl ?_
    refine z_ist i d_J7_fill_53178_13 (qset_eq _ _ _) (by omega) rfl (by omega) ?_
    refine z_iinc (ls' := [qR a, qI v, qI ((i : Int) + 1), qI (n : Int)]) d_J7_fill_53178_14 rfl (by decide) (by omega) rfl ?_
    refine z_goto 5 d_J7_fill_53178_17 (by decide) ?_
    exact z_eq (qc rfl (qc rfl (qc (qi (by omega)) (qc rfl rfl)))) rfl (qset_ar (qmx_s i (fun _ => v) f)) (kki trivial)
  · show qEx M_J7_fill_53178 5 [qR a, qI v, qI (n : Int), qI (n : Int)] [] (qset h a (qAr 0 n (qmx n (fun _ => v) f))) r hr
    refine z_iload_n d_J7_fill_53178_5 rfl rfl ?_
    refine z_iload_n d_J7_fill_53178_6 rfl rfl ?_
    refine z_icmp_ge 20 d_J7_fill_53178_7 (by decide) (fun hc2 => ?_) (fun hc2 => absurd hc2 (by omega))
    exact z_vret d_J7_fill_53178_20 rfl er eh
set_option maxRecDepth 20000 in
set_option maxHeartbeats 4000000 in
theorem c_fillL {h : qH} {a n : Nat} {f : Nat → Int} {v : Int} (e0 : h.2.2 a = qAr 1 n f) (ha : a ≠ 1) (hn : n ≤ 100000) : qEx M_J7_fill_d0a16 0 [qR a, qL v, qU, qU, qU] [] h none (qset h a (qAr 1 n (qmx n (fun _ => v) f))) := by
  refine q_gen (fun r hr er eh => ?_)
  refine z_iconst d_J7_fill_d0a16_0 (by decide) ?_
  refine z_istore_n (ls' := [qR a, qL v, qU, qI 0, qU]) d_J7_fill_d0a16_1 rfl (by decide) rfl ?_
  refine z_aload_n d_J7_fill_d0a16_2 rfl rfl ?_
  refine z_alen1 d_J7_fill_d0a16_3 e0 (by omega) ?_
  refine z_istore (ls' := [qR a, qL v, qU, qI 0, qI (n : Int)]) d_J7_fill_d0a16_4 (by decide) rfl ?_
  refine z_eq (qc rfl (qc rfl (qc rfl (qc (qi (by omega)) (qc rfl rfl))))) rfl (by rw [qmx_0, qset_self e0]) (z_for n (fun i => [qR a, qL v, qU, qI (i : Int), qI (n : Int)]) (fun i => (qset h a (qAr 1 n (qmx i (fun _ => v) f)))) (fun i => True) trivial (fun i hii hp kki => ?_) (fun hp => ?_))
  · show qEx M_J7_fill_d0a16 6 [qR a, qL v, qU, qI (i : Int), qI (n : Int)] [] (qset h a (qAr 1 n (qmx i (fun _ => v) f))) r hr
    refine z_iload_n d_J7_fill_d0a16_6 rfl rfl ?_
    refine z_iload d_J7_fill_d0a16_7 rfl ?_
    refine z_icmp_ge 22 d_J7_fill_d0a16_9 (by decide) (fun hc1 => absurd hc1 (by omega)) (fun hc1 => ?_)
    refine z_aload_n d_J7_fill_d0a16_12 rfl rfl ?_
    refine z_iload_n d_J7_fill_d0a16_13 rfl rfl ?_
    refine z_lload_n d_J7_fill_d0a16_14 rfl rfl ?_
    refine z_lst i d_J7_fill_d0a16_15 (qset_eq _ _ _) (by omega) rfl (by omega) ?_
    refine z_iinc (ls' := [qR a, qL v, qU, qI ((i : Int) + 1), qI (n : Int)]) d_J7_fill_d0a16_16 rfl (by decide) (by omega) rfl ?_
    refine z_goto 6 d_J7_fill_d0a16_19 (by decide) ?_
    exact z_eq (qc rfl (qc rfl (qc rfl (qc (qi (by omega)) (qc rfl rfl))))) rfl (qset_ar (qmx_s i (fun _ => v) f)) (kki trivial)
  · show qEx M_J7_fill_d0a16 6 [qR a, qL v, qU, qI (n : Int), qI (n : Int)] [] (qset h a (qAr 1 n (qmx n (fun _ => v) f))) r hr
    refine z_iload_n d_J7_fill_d0a16_6 rfl rfl ?_
    refine z_iload d_J7_fill_d0a16_7 rfl ?_
    refine z_icmp_ge 22 d_J7_fill_d0a16_9 (by decide) (fun hc2 => ?_) (fun hc2 => absurd hc2 (by omega))
    exact z_vret d_J7_fill_d0a16_22 rfl er eh
theorem cnt_s {p : Nat → Prop} {n : Nat} {x : Prop} (h : x ↔ p n) : cnt p n + qb x = cnt p (n + 1) := by rw [qb_congr h]; rfl
theorem q_hasB (x : Int) {k : Nat} (hk : k < 32) : qAnd (qShr x (k : Int)) 1 = qb (tb x k = true) := by
  rw [q_has x hk]
  by_cases h : tb x k = true
  · rw [if_pos h, qb_t h]
  · rw [if_neg h, qb_f h]
theorem q_hasUB (x : Int) {k : Nat} (hk : k < 32) : qAnd (qUshr x (k : Int)) 1 = qb (tb x k = true) := by
  rw [q_hasU x hk]
  by_cases h : tb x k = true
  · rw [if_pos h, qb_t h]
  · rw [if_neg h, qb_f h]
theorem q_lts {P : Nat → Prop} {i : Nat} (h : ∀ k, k < i → P k) (hi : P i) : ∀ k, k < i + 1 → P k := by
  intro k hk
  by_cases e : k = i
  · subst e; exact hi
  · exact h k (by omega)
theorem q_fm {x y : Int} (hy : 0 < y) : (0 ≤ x → x % y = x.tmod y) ∧ (x < 0 → x.tmod y = 0 → x % y = 0) ∧ (x < 0 → x.tmod y ≠ 0 → x % y = x.tmod y + y) := by
  refine ⟨fun h => (Int.tmod_eq_emod_of_nonneg h).symm, fun h h0 => ?_, fun h h0 => ?_⟩
  · have e : x % y = (x.tmod y) % y := by
      conv => lhs; rw [← Int.tmod_add_mul_tdiv x y]
      rw [Int.add_mul_emod_self_left]
    rw [e, h0]; simp
  · have e : x % y = (x.tmod y) % y := by
      conv => lhs; rw [← Int.tmod_add_mul_tdiv x y]
      rw [Int.add_mul_emod_self_left]
    have h1 := Int.tmod_nonneg y (show 0 ≤ -x by omega)
    rw [Int.neg_tmod] at h1
    have h2 := Int.lt_tmod_of_pos x hy
    rw [e, ← Int.add_emod_right]
    exact Int.emod_eq_of_lt (by omega) (by omega)
/-- a sum of the first n places -/
def sm (f : Nat → Int) : Nat → Int
  | 0 => 0
  | n + 1 => sm f n + f n
theorem sm_bd {f : Nat → Int} {B : Int} : ∀ n : Nat, (∀ k, k < n → 0 ≤ f k ∧ f k ≤ B) → 0 ≤ sm f n ∧ sm f n ≤ n * B
  | 0, _ => by simp [sm]
  | n + 1, h => by
    have h1 := sm_bd n (fun k hk => h k (by omega))
    have h2 := h n (by omega)
    show 0 ≤ sm f n + f n ∧ sm f n + f n ≤ ((n + 1 : Nat) : Int) * B
    have e : ((n + 1 : Nat) : Int) * B = n * B + B := by rw [Int.natCast_add, Int.add_mul]; simp
    omega
set_option maxRecDepth 20000 in
set_option maxHeartbeats 4000000 in
theorem c_has {h : qH} (x : Int) (k : Nat) (hk : k < 32) : qEx M_X12_has 0 [qI x, qI (k : Int)] [] h (some (qI (qb (tb x k = true)))) h := by
  refine q_gen (fun r hr er eh => ?_)
  refine z_iload_n d_X12_has_0 rfl rfl ?_
  refine z_iload_n d_X12_has_1 rfl rfl ?_
  refine z_ishr d_X12_has_2 ?_
  refine z_iconst d_X12_has_3 (by decide) ?_
  refine z_iand d_X12_has_4 ?_
  refine z_iconst d_X12_has_5 (by decide) ?_
  suffices kJ6 : qEx M_X12_has 14 [qI x, qI (k : Int)] [qI (qb ((qAnd (qShr x (k : Int)) 1) = 1))] h r hr by
    refine z_icmp_ne 13 d_X12_has_6 (by decide) (fun hc1 => ?_) (fun hc1 => ?_)
    · refine z_iconst d_X12_has_13 (by decide) ?_
      exact z_eq rfl (qc (qi (qb_f (by omega)).symm) rfl) rfl kJ6
    · refine z_iconst d_X12_has_9 (by decide) ?_
      refine z_goto 14 d_X12_has_10 (by decide) ?_
      exact z_eq rfl (qc (qi (qb_t (by omega)).symm) rfl) rfl kJ6
  exact z_zret d_X12_has_14 rfl (by first | exact qb_01 _ | decide | omega) (qer er (qb_congr (by rw [q_hasB x hk]; exact qb_iff.symm))) eh
set_option maxRecDepth 20000 in
set_option maxHeartbeats 4000000 in
theorem c_ones {h : qH} (x : Int)  : qEx M_X12_ones 0 [qI x, qU, qU] [] h (some (qI (cnt (fun k => tb x k = true) 12))) h := by
  refine q_gen (fun r hr er eh => ?_)
  refine z_iconst d_X12_ones_0 (by decide) ?_
  refine z_istore_n (ls' := [qI x, qI 0, qU]) d_X12_ones_1 rfl (by decide) rfl ?_
  refine z_iconst d_X12_ones_2 (by decide) ?_
  refine z_istore_n (ls' := [qI x, qI 0, qI 0]) d_X12_ones_3 rfl (by decide) rfl ?_
  refine z_eq (qc rfl (qc (qi (rfl)) (qc (qi (by omega)) rfl))) rfl rfl (z_for 12 (fun i => [qI x, qI (cnt (fun k => tb x k = true) i), qI (i : Int)]) (fun i => h) (fun i => True) trivial (fun i hii hp kki => ?_) (fun hp => ?_))
  · show qEx M_X12_ones 4 [qI x, qI (cnt (fun k => tb x k = true) i), qI (i : Int)] [] h r hr
    have b1 := cnt_bd (fun k => tb x k = true) i
    have b2 := qb_bd (tb x i = true)
    have b3 := q_hasB x (show i < 32 by omega)
    refine z_iload_n d_X12_ones_4 rfl rfl ?_
    refine z_bipush d_X12_ones_5 (by decide) ?_
    refine z_icmp_ge 24 d_X12_ones_7 (by decide) (fun hc1 => absurd hc1 (by omega)) (fun hc1 => ?_)
    refine z_iload_n d_X12_ones_10 rfl rfl ?_
    refine z_iload_n d_X12_ones_11 rfl rfl ?_
    refine z_iload_n d_X12_ones_12 rfl rfl ?_
    refine z_ishr d_X12_ones_13 ?_
    refine z_iconst d_X12_ones_14 (by decide) ?_
    refine z_iand d_X12_ones_15 ?_
    refine z_iadd d_X12_ones_16 (by omega) ?_
    refine z_istore_n (ls' := [qI x, qI ((cnt (fun k => tb x k = true) i) + (qAnd (qShr x (i : Int)) 1)), qI (i : Int)]) d_X12_ones_17 rfl (by decide) rfl ?_
    refine z_iinc (ls' := [qI x, qI ((cnt (fun k => tb x k = true) i) + (qAnd (qShr x (i : Int)) 1)), qI ((i : Int) + 1)]) d_X12_ones_18 rfl (by decide) (by omega) rfl ?_
    refine z_goto 4 d_X12_ones_21 (by decide) ?_
    exact z_eq (qc rfl (qc (qi (by rw [b3]; rfl)) (qc (qi (by omega)) rfl))) rfl rfl (kki trivial)
  · show qEx M_X12_ones 4 [qI x, qI (cnt (fun k => tb x k = true) 12), qI (12 : Int)] [] h r hr
    refine z_iload_n d_X12_ones_4 rfl rfl ?_
    refine z_bipush d_X12_ones_5 (by decide) ?_
    refine z_icmp_ge 24 d_X12_ones_7 (by decide) (fun hc2 => ?_) (fun hc2 => absurd hc2 (by omega))
    refine z_iload_n d_X12_ones_24 rfl rfl ?_
    exact z_iret d_X12_ones_25 rfl er eh
set_option maxRecDepth 20000 in
set_option maxHeartbeats 4000000 in
theorem c_copies {h : qH} {a b n : Nat} {f g : Nat → Int} {n2 : Nat} (e0 : h.2.2 a = qAr 0 n f) (e1 : h.2.2 b = qAr 0 n2 g) (hab : a ≠ b) (hb : b ≠ 1) (hn : n ≤ n2) (hn2 : n2 ≤ 10000) : qEx M_X12_copies 0 [qR a, qR b, qU] [] h none (qset h b (qAr 0 n2 (qmx n f g))) := by
  refine q_gen (fun r hr er eh => ?_)
  refine z_iconst d_X12_copies_0 (by decide) ?_
  refine z_istore_n (ls' := [qR a, qR b, qI 0]) d_X12_copies_1 rfl (by decide) rfl ?_
  refine z_eq (qc rfl (qc rfl (qc (qi (by omega)) rfl))) rfl (by rw [qmx_0, qset_self e1]) (z_for n (fun i => [qR a, qR b, qI (i : Int)]) (fun i => (qset h b (qAr 0 n2 (qmx i f g)))) (fun i => True) trivial (fun i hii hp kki => ?_) (fun hp => ?_))
  · show qEx M_X12_copies 2 [qR a, qR b, qI (i : Int)] [] (qset h b (qAr 0 n2 (qmx i f g))) r hr
    refine z_iload_n d_X12_copies_2 rfl rfl ?_
    refine z_aload_n d_X12_copies_3 rfl rfl ?_
    refine z_alen d_X12_copies_4 ((qset_ne hab).trans e0) (by omega) ?_
    refine z_icmp_ge 20 d_X12_copies_5 (by decide) (fun hc1 => absurd hc1 (by omega)) (fun hc1 => ?_)
    refine z_aload_n d_X12_copies_8 rfl rfl ?_
    refine z_iload_n d_X12_copies_9 rfl rfl ?_
    refine z_aload_n d_X12_copies_10 rfl rfl ?_
    refine z_iload_n d_X12_copies_11 rfl rfl ?_
    refine z_ild i d_X12_copies_12 ((qset_ne hab).trans e0) rfl (by omega) ?_
    refine z_ist i d_X12_copies_13 (qset_eq _ _ _) (by omega) rfl (by omega) ?_
    refine z_iinc (ls' := [qR a, qR b, qI ((i : Int) + 1)]) d_X12_copies_14 rfl (by decide) (by omega) rfl ?_
    refine z_goto 2 d_X12_copies_17 (by decide) ?_
    exact z_eq (qc rfl (qc rfl (qc (qi (by omega)) rfl))) rfl (qset_ar (qmx_s i f g)) (kki trivial)
  · show qEx M_X12_copies 2 [qR a, qR b, qI (n : Int)] [] (qset h b (qAr 0 n2 (qmx n f g))) r hr
    refine z_iload_n d_X12_copies_2 rfl rfl ?_
    refine z_aload_n d_X12_copies_3 rfl rfl ?_
    refine z_alen d_X12_copies_4 ((qset_ne hab).trans e0) (by omega) ?_
    refine z_icmp_ge 20 d_X12_copies_5 (by decide) (fun hc2 => ?_) (fun hc2 => absurd hc2 (by omega))
    exact z_vret d_X12_copies_20 rfl er eh
set_option maxRecDepth 20000 in
set_option maxHeartbeats 4000000 in
theorem c_sumOf {h : qH} {a n : Nat} {f : Nat → Int}  (e0 : h.2.2 a = qAr 0 n f) (hn : 4 ≤ n) (hf : ∀ k, k < 4 → 0 ≤ f k ∧ f k ≤ 1000) : qEx M_X12_sumOf 0 [qR a, qU, qU] [] h (some (qI (sm f 4))) h := by
  refine q_gen (fun r hr er eh => ?_)
  refine z_iconst d_X12_sumOf_0 (by decide) ?_
  refine z_istore_n (ls' := [qR a, qI 0, qU]) d_X12_sumOf_1 rfl (by decide) rfl ?_
  refine z_iconst d_X12_sumOf_2 (by decide) ?_
  refine z_istore_n (ls' := [qR a, qI 0, qI 0]) d_X12_sumOf_3 rfl (by decide) rfl ?_
  refine z_eq (qc rfl (qc (qi (rfl)) (qc (qi (by omega)) rfl))) rfl rfl (z_for 4 (fun i => [qR a, qI (sm f i), qI (i : Int)]) (fun i => h) (fun i => True) trivial (fun i hii hp kki => ?_) (fun hp => ?_))
  · show qEx M_X12_sumOf 4 [qR a, qI (sm f i), qI (i : Int)] [] h r hr
    have b1 := sm_bd (B := 1000) i (fun k hk => hf k (by omega))
    have b2 := hf i hii
    refine z_iload_n d_X12_sumOf_4 rfl rfl ?_
    refine z_iconst d_X12_sumOf_5 (by decide) ?_
    refine z_icmp_ge 21 d_X12_sumOf_6 (by decide) (fun hc1 => absurd hc1 (by omega)) (fun hc1 => ?_)
    refine z_iload_n d_X12_sumOf_9 rfl rfl ?_
    refine z_aload_n d_X12_sumOf_10 rfl rfl ?_
    refine z_iload_n d_X12_sumOf_11 rfl rfl ?_
    refine z_ild i d_X12_sumOf_12 e0 rfl (by omega) ?_
    refine z_iadd d_X12_sumOf_13 (by omega) ?_
    refine z_istore_n (ls' := [qR a, qI ((sm f i) + (f i)), qI (i : Int)]) d_X12_sumOf_14 rfl (by decide) rfl ?_
    refine z_iinc (ls' := [qR a, qI ((sm f i) + (f i)), qI ((i : Int) + 1)]) d_X12_sumOf_15 rfl (by decide) (by omega) rfl ?_
    refine z_goto 4 d_X12_sumOf_18 (by decide) ?_
    exact z_eq (qc rfl (qc (qi (rfl)) (qc (qi (by omega)) rfl))) rfl rfl (kki trivial)
  · show qEx M_X12_sumOf 4 [qR a, qI (sm f 4), qI (4 : Int)] [] h r hr
    refine z_iload_n d_X12_sumOf_4 rfl rfl ?_
    refine z_iconst d_X12_sumOf_5 (by decide) ?_
    refine z_icmp_ge 21 d_X12_sumOf_6 (by decide) (fun hc2 => ?_) (fun hc2 => absurd hc2 (by omega))
    refine z_iload_n d_X12_sumOf_21 rfl rfl ?_
    exact z_iret d_X12_sumOf_22 rfl er eh
set_option maxRecDepth 20000 in
set_option maxHeartbeats 4000000 in
theorem c_litIn {h : qH} {a n : Nat} {f : Nat → Int} (c : Nat) (e0 : h.2.2 a = qAr 0 n f) (hc : c ≤ n) (hn : n ≤ 10000) : qEx M_X12_litIn 0 [qR a, qI (c : Int), qU, qU] [] h (some (qI (cnt (fun k => f k = 7) c))) h := by
  refine q_gen (fun r hr er eh => ?_)
  refine z_iconst d_X12_litIn_0 (by decide) ?_
  refine z_istore_n (ls' := [qR a, qI (c : Int), qI 0, qU]) d_X12_litIn_1 rfl (by decide) rfl ?_
  refine z_iconst d_X12_litIn_2 (by decide) ?_
  refine z_istore_n (ls' := [qR a, qI (c : Int), qI 0, qI 0]) d_X12_litIn_3 rfl (by decide) rfl ?_
  refine z_eq (qc rfl (qc rfl (qc (qi (rfl)) (qc (qi (by omega)) rfl)))) rfl rfl (z_for c (fun i => [qR a, qI (c : Int), qI (cnt (fun k => f k = 7) i), qI (i : Int)]) (fun i => h) (fun i => True) trivial (fun i hii hp kki => ?_) (fun hp => ?_))
  · show qEx M_X12_litIn 4 [qR a, qI (c : Int), qI (cnt (fun k => f k = 7) i), qI (i : Int)] [] h r hr
    have b1 := cnt_bd (fun k => f k = 7) i
    have b2 := qb_bd (f i = 7)
    refine z_iload_n d_X12_litIn_4 rfl rfl ?_
    refine z_iload_n d_X12_litIn_5 rfl rfl ?_
    refine z_icmp_ge 31 d_X12_litIn_6 (by decide) (fun hc1 => absurd hc1 (by omega)) (fun hc1 => ?_)
    refine z_iload_n d_X12_litIn_9 rfl rfl ?_
    refine z_aload_n d_X12_litIn_10 rfl rfl ?_
    refine z_iload_n d_X12_litIn_11 rfl rfl ?_
    refine z_ild i d_X12_litIn_12 e0 rfl (by omega) ?_
    refine z_bipush d_X12_litIn_13 (by decide) ?_
    suffices kJ15 : qEx M_X12_litIn 23 [qR a, qI (c : Int), qI (cnt (fun k => f k = 7) i), qI (i : Int)] [qI (qb ((f i) = 7)), qI (cnt (fun k => f k = 7) i)] h r hr by
      refine z_icmp_ne 22 d_X12_litIn_15 (by decide) (fun hc2 => ?_) (fun hc2 => ?_)
      · refine z_iconst d_X12_litIn_22 (by decide) ?_
        exact z_eq rfl (qc (qi (qb_f (by omega)).symm) (qc rfl rfl)) rfl kJ15
      · refine z_iconst d_X12_litIn_18 (by decide) ?_
        refine z_goto 23 d_X12_litIn_19 (by decide) ?_
        exact z_eq rfl (qc (qi (qb_t (by omega)).symm) (qc rfl rfl)) rfl kJ15
    refine z_iadd d_X12_litIn_23 (by omega) ?_
    refine z_istore_n (ls' := [qR a, qI (c : Int), qI ((cnt (fun k => f k = 7) i) + (qb ((f i) = 7))), qI (i : Int)]) d_X12_litIn_24 rfl (by decide) rfl ?_
    refine z_iinc (ls' := [qR a, qI (c : Int), qI ((cnt (fun k => f k = 7) i) + (qb ((f i) = 7))), qI ((i : Int) + 1)]) d_X12_litIn_25 rfl (by decide) (by omega) rfl ?_
    refine z_goto 4 d_X12_litIn_28 (by decide) ?_
    exact z_eq (qc rfl (qc rfl (qc (qi (rfl)) (qc (qi (by omega)) rfl)))) rfl rfl (kki trivial)
  · show qEx M_X12_litIn 4 [qR a, qI (c : Int), qI (cnt (fun k => f k = 7) c), qI (c : Int)] [] h r hr
    refine z_iload_n d_X12_litIn_4 rfl rfl ?_
    refine z_iload_n d_X12_litIn_5 rfl rfl ?_
    refine z_icmp_ge 31 d_X12_litIn_6 (by decide) (fun hc3 => ?_) (fun hc3 => absurd hc3 (by omega))
    refine z_iload_n d_X12_litIn_31 rfl rfl ?_
    exact z_iret d_X12_litIn_32 rfl er eh
set_option maxRecDepth 20000 in
set_option maxHeartbeats 4000000 in
theorem c_firstLit {h : qH} {a n : Nat} {f : Nat → Int} (c : Nat) (e0 : h.2.2 a = qAr 0 n f) (hc : c ≤ n) (hn : n ≤ 10000) : qEx M_X12_firstOf 0 [qR a, qI (c : Int), qI 1, qU] [] h (some (qI (fst (fun k => f k = 7) c))) h := by
  refine q_gen (fun r hr er eh => ?_)
  refine z_iconst d_X12_firstOf_0 (by decide) ?_
  refine z_istore_n (ls' := [qR a, qI (c : Int), qI 1, qI 0]) d_X12_firstOf_1 rfl (by decide) rfl ?_
  refine z_eq (qc rfl (qc rfl (qc rfl (qc (qi (by omega)) rfl)))) rfl rfl (z_for c (fun i => [qR a, qI (c : Int), qI 1, qI (i : Int)]) (fun i => h) (fun i => ∀ k, k < i → ¬ f k = 7) (fun k hk => absurd hk (by omega)) (fun i hii hp kki => ?_) (fun hp => ?_))
  · show qEx M_X12_firstOf 2 [qR a, qI (c : Int), qI 1, qI (i : Int)] [] h r hr
    refine z_iload_n d_X12_firstOf_2 rfl rfl ?_
    refine z_iload_n d_X12_firstOf_3 rfl rfl ?_
    refine z_icmp_ge 32 d_X12_firstOf_4 (by decide) (fun hc1 => absurd hc1 (by omega)) (fun hc1 => ?_)
    refine z_aload_n d_X12_firstOf_7 rfl rfl ?_
    refine z_iload_n d_X12_firstOf_8 rfl rfl ?_
    refine z_ild i d_X12_firstOf_9 e0 rfl (by omega) ?_
    refine z_bipush d_X12_firstOf_10 (by decide) ?_
    suffices kJ12 : qEx M_X12_firstOf 20 [qR a, qI (c : Int), qI 1, qI (i : Int)] [qI (qb ((f i) = 7))] h r hr by
      refine z_icmp_ne 19 d_X12_firstOf_12 (by decide) (fun hc2 => ?_) (fun hc2 => ?_)
      · refine z_iconst d_X12_firstOf_19 (by decide) ?_
        exact z_eq rfl (qc (qi (qb_f (by omega)).symm) rfl) rfl kJ12
      · refine z_iconst d_X12_firstOf_15 (by decide) ?_
        refine z_goto 20 d_X12_firstOf_16 (by decide) ?_
        exact z_eq rfl (qc (qi (qb_t (by omega)).symm) rfl) rfl kJ12
    refine z_iload_n d_X12_firstOf_20 rfl rfl ?_
    refine z_icmp_ne 26 d_X12_firstOf_21 (by decide) (fun hc2 => ?_) (fun hc2 => ?_)
    · refine z_iinc (ls' := [qR a, qI (c : Int), qI 1, qI ((i : Int) + 1)]) d_X12_firstOf_26 rfl (by decide) (by omega) rfl ?_
      refine z_goto 2 d_X12_firstOf_29 (by decide) ?_
      exact z_eq (qc rfl (qc rfl (qc rfl (qc (qi (by omega)) rfl)))) rfl rfl (kki (q_lts hp (fun z => hc2 (qb_t z))))
    · refine z_iload_n d_X12_firstOf_24 rfl rfl ?_
      exact z_iret d_X12_firstOf_25 rfl (qer er (fst_at hii hp (qb_iff.mp (by omega)))) eh
  · show qEx M_X12_firstOf 2 [qR a, qI (c : Int), qI 1, qI (c : Int)] [] h r hr
    refine z_iload_n d_X12_firstOf_2 rfl rfl ?_
    refine z_iload_n d_X12_firstOf_3 rfl rfl ?_
    refine z_icmp_ge 32 d_X12_firstOf_4 (by decide) (fun hc3 => ?_) (fun hc3 => absurd hc3 (by omega))
    refine z_iconst d_X12_firstOf_32 (by decide) ?_
    exact z_iret d_X12_firstOf_33 rfl (qer er (fst_none hp)) eh
set_option maxRecDepth 20000 in
set_option maxHeartbeats 4000000 in
theorem c_firstDark {h : qH} {a n : Nat} {f : Nat → Int} (c : Nat) (e0 : h.2.2 a = qAr 0 n f) (hc : c ≤ n) (hn : n ≤ 10000) : qEx M_X12_firstOf 0 [qR a, qI (c : Int), qI 0, qU] [] h (some (qI (fst (fun k => ¬ f k = 7) c))) h := by
  refine q_gen (fun r hr er eh => ?_)
  refine z_iconst d_X12_firstOf_0 (by decide) ?_
  refine z_istore_n (ls' := [qR a, qI (c : Int), qI 0, qI 0]) d_X12_firstOf_1 rfl (by decide) rfl ?_
  refine z_eq (qc rfl (qc rfl (qc rfl (qc (qi (by omega)) rfl)))) rfl rfl (z_for c (fun i => [qR a, qI (c : Int), qI 0, qI (i : Int)]) (fun i => h) (fun i => ∀ k, k < i → f k = 7) (fun k hk => absurd hk (by omega)) (fun i hii hp kki => ?_) (fun hp => ?_))
  · show qEx M_X12_firstOf 2 [qR a, qI (c : Int), qI 0, qI (i : Int)] [] h r hr
    refine z_iload_n d_X12_firstOf_2 rfl rfl ?_
    refine z_iload_n d_X12_firstOf_3 rfl rfl ?_
    refine z_icmp_ge 32 d_X12_firstOf_4 (by decide) (fun hc1 => absurd hc1 (by omega)) (fun hc1 => ?_)
    refine z_aload_n d_X12_firstOf_7 rfl rfl ?_
    refine z_iload_n d_X12_firstOf_8 rfl rfl ?_
    refine z_ild i d_X12_firstOf_9 e0 rfl (by omega) ?_
    refine z_bipush d_X12_firstOf_10 (by decide) ?_
    suffices kJ12 : qEx M_X12_firstOf 20 [qR a, qI (c : Int), qI 0, qI (i : Int)] [qI (qb ((f i) = 7))] h r hr by
      refine z_icmp_ne 19 d_X12_firstOf_12 (by decide) (fun hc2 => ?_) (fun hc2 => ?_)
      · refine z_iconst d_X12_firstOf_19 (by decide) ?_
        exact z_eq rfl (qc (qi (qb_f (by omega)).symm) rfl) rfl kJ12
      · refine z_iconst d_X12_firstOf_15 (by decide) ?_
        refine z_goto 20 d_X12_firstOf_16 (by decide) ?_
        exact z_eq rfl (qc (qi (qb_t (by omega)).symm) rfl) rfl kJ12
    refine z_iload_n d_X12_firstOf_20 rfl rfl ?_
    refine z_icmp_ne 26 d_X12_firstOf_21 (by decide) (fun hc2 => ?_) (fun hc2 => ?_)
    · refine z_iinc (ls' := [qR a, qI (c : Int), qI 0, qI ((i : Int) + 1)]) d_X12_firstOf_26 rfl (by decide) (by omega) rfl ?_
      refine z_goto 2 d_X12_firstOf_29 (by decide) ?_
      exact z_eq (qc rfl (qc rfl (qc rfl (qc (qi (by omega)) rfl)))) rfl rfl (kki (q_lts hp (Classical.byContradiction (fun z => hc2 (qb_f z)))))
    · refine z_iload_n d_X12_firstOf_24 rfl rfl ?_
      exact z_iret d_X12_firstOf_25 rfl (qer er (fst_at (p := fun k => ¬ f k = 7) hii (fun k hk => Classical.not_not.mpr (hp k hk)) (fun z => by have := qb_t z; omega))) eh
  · show qEx M_X12_firstOf 2 [qR a, qI (c : Int), qI 0, qI (c : Int)] [] h r hr
    refine z_iload_n d_X12_firstOf_2 rfl rfl ?_
    refine z_iload_n d_X12_firstOf_3 rfl rfl ?_
    refine z_icmp_ge 32 d_X12_firstOf_4 (by decide) (fun hc3 => ?_) (fun hc3 => absurd hc3 (by omega))
    refine z_iconst d_X12_firstOf_32 (by decide) ?_
    exact z_iret d_X12_firstOf_33 rfl (qer er (fst_none (fun k hk => Classical.not_not.mpr (hp k hk)))) eh
set_option maxRecDepth 20000 in
set_option maxHeartbeats 4000000 in
theorem c_begins {h : qH} {a n : Nat} {f : Nat → Int} (c : Nat) (b : Int) (e0 : h.2.2 a = qAr 0 n f) (ha : a ≠ 1) (hc : c ≤ n) (hn : n ≤ 10000) : qEx M_X12_begins 0 [qR a, qI (c : Int), qI b, qU] [] h none (qset h a (qAr 0 n (qmx c (fun k => qb ((k : Int) = b)) f))) := by
  refine q_gen (fun r hr er eh => ?_)
  refine z_iconst d_X12_begins_0 (by decide) ?_
  refine z_istore_n (ls' := [qR a, qI (c : Int), qI b, qI 0]) d_X12_begins_1 rfl (by decide) rfl ?_
  refine z_eq (qc rfl (qc rfl (qc rfl (qc (qi (by omega)) rfl)))) rfl (by rw [qmx_0, qset_self e0]) (z_for c (fun i => [qR a, qI (c : Int), qI b, qI (i : Int)]) (fun i => (qset h a (qAr 0 n (qmx i (fun k => qb ((k : Int) = b)) f)))) (fun i => True) trivial (fun i hii hp kki => ?_) (fun hp => ?_))
  · show qEx M_X12_begins 2 [qR a, qI (c : Int), qI b, qI (i : Int)] [] (qset h a (qAr 0 n (qmx i (fun k => qb ((k : Int) = b)) f))) r hr
    refine z_iload_n d_X12_begins_2 rfl rfl ?_
    refine z_iload_n d_X12_begins_3 rfl rfl ?_
    refine z_icmp_ge 26 d_X12_begins_4 (by decide) (fun hc1 => absurd hc1 (by omega)) (fun hc1 => ?_)
    refine z_aload_n d_X12_begins_7 rfl rfl ?_
    refine z_iload_n d_X12_begins_8 rfl rfl ?_
    refine z_iload_n d_X12_begins_9 rfl rfl ?_
    refine z_iload_n d_X12_begins_10 rfl rfl ?_
    suffices kJ11 : qEx M_X12_begins 19 [qR a, qI (c : Int), qI b, qI (i : Int)] [qI (qb ((i : Int) = b)), qI (i : Int), qR a] (qset h a (qAr 0 n (qmx i (fun k => qb ((k : Int) = b)) f))) r hr by
      refine z_icmp_ne 18 d_X12_begins_11 (by decide) (fun hc2 => ?_) (fun hc2 => ?_)
      · refine z_iconst d_X12_begins_18 (by decide) ?_
        exact z_eq rfl (qc (qi (qb_f (by omega)).symm) (qc rfl (qc rfl rfl))) rfl kJ11
      · refine z_iconst d_X12_begins_14 (by decide) ?_
        refine z_goto 19 d_X12_begins_15 (by decide) ?_
        exact z_eq rfl (qc (qi (qb_t (by omega)).symm) (qc rfl (qc rfl rfl))) rfl kJ11
    refine z_ist i d_X12_begins_19 (qset_eq _ _ _) (by omega) rfl (by omega) ?_
    refine z_iinc (ls' := [qR a, qI (c : Int), qI b, qI ((i : Int) + 1)]) d_X12_begins_20 rfl (by decide) (by omega) rfl ?_
    refine z_goto 2 d_X12_begins_23 (by decide) ?_
    exact z_eq (qc rfl (qc rfl (qc rfl (qc (qi (by omega)) rfl)))) rfl (qset_ar (qmx_s i (fun k => qb ((k : Int) = b)) f)) (kki trivial)
  · show qEx M_X12_begins 2 [qR a, qI (c : Int), qI b, qI (c : Int)] [] (qset h a (qAr 0 n (qmx c (fun k => qb ((k : Int) = b)) f))) r hr
    refine z_iload_n d_X12_begins_2 rfl rfl ?_
    refine z_iload_n d_X12_begins_3 rfl rfl ?_
    refine z_icmp_ge 26 d_X12_begins_4 (by decide) (fun hc3 => ?_) (fun hc3 => absurd hc3 (by omega))
    exact z_vret d_X12_begins_26 rfl er eh
set_option maxRecDepth 20000 in
set_option maxHeartbeats 4000000 in
theorem c_floorMod {h : qH} (x y : Int) (hy : 0 < y) (hx : R32 x) (hyR : R32 y) : qEx M_J9_floorMod_7cf53 0 [qI x, qI y, qU] [] h (some (qI (x % y))) h := by
  refine q_gen (fun r hr er eh => ?_)
  have hy0 : decide (y < 0) = false := by simp; omega
  have hs : tb (qXor x y) 31 = decide (x < 0) := by rw [tb_xor, tb_neg hx, tb_neg hyR, hy0]; simp
  have hsg : qXor x y < 0 ↔ x < 0 := by rw [tb_neg (qXor_R x y)] at hs; simpa using hs
  have hbd := Int.tmod_lt_of_pos x hy
  have hbl := Int.lt_tmod_of_pos x hy
  have hf := q_fm (x := x) hy
  have h8 := Int.emod_lt_of_pos x hy
  have h9 := Int.emod_nonneg x (show y ≠ 0 by omega)
  refine z_iload_n d_J9_floorMod_7cf53_0 rfl rfl ?_
  refine z_iload_n d_J9_floorMod_7cf53_1 rfl rfl ?_
  refine z_irem d_J9_floorMod_7cf53_2 (by omega) ?_
  refine z_istore_n (ls' := [qI x, qI y, qI (Int.tmod x y)]) d_J9_floorMod_7cf53_3 rfl (by decide) rfl ?_
  refine z_iload_n d_J9_floorMod_7cf53_4 rfl rfl ?_
  refine z_iload_n d_J9_floorMod_7cf53_5 rfl rfl ?_
  refine z_ixor d_J9_floorMod_7cf53_6 ?_
  refine z_if_ge 18 d_J9_floorMod_7cf53_7 (by decide) (fun ha => ?_) (fun ha => ?_)
  · refine z_iload_n d_J9_floorMod_7cf53_18 rfl rfl ?_
    exact z_iret d_J9_floorMod_7cf53_19 rfl (qer er (by first | exact hf.1 (by omega) | (rw [hb]; exact hf.2.1 (hsg.mp (by omega)) hb))) eh
  · refine z_iload_n d_J9_floorMod_7cf53_10 rfl rfl ?_
    refine z_if_eq 18 d_J9_floorMod_7cf53_11 (by decide) (fun hb => ?_) (fun hb => ?_)
    · refine z_iload_n d_J9_floorMod_7cf53_18 rfl rfl ?_
      exact z_iret d_J9_floorMod_7cf53_19 rfl (qer er (by first | exact hf.1 (by omega) | (rw [hb]; exact hf.2.1 (hsg.mp (by omega)) hb))) eh
    · refine z_iload_n d_J9_floorMod_7cf53_14 rfl rfl ?_
      refine z_iload_n d_J9_floorMod_7cf53_15 rfl rfl ?_
      refine z_iadd d_J9_floorMod_7cf53_16 (by have := hf.2.2 (hsg.mp (by omega)) hb; omega) ?_
      exact z_iret d_J9_floorMod_7cf53_17 rfl (qer er (hf.2.2 (hsg.mp (by omega)) hb)) eh
