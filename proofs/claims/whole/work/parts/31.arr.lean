/-! ===== CONTRACTS: fill, floorMod; the reference's static methods over arrays ===== -/
set_option maxRecDepth 20000 in
set_option maxHeartbeats 4000000 in
theorem c_fill {h : qH} {a n : Nat} {f : Nat → Int} {v : Int} (e0 : h.2.2 a = qAr 0 n f) (ha : a ≠ 1) (hn : n ≤ 100000) : qEx M_J7_fill_53178 0 [qR a, qI v, qU, qU] [] h none (qset h a (qAr 0 n (qmx n (fun _ => v) f))) := by
  refine q_gen (fun r hr er eh => ?_)
  refine z_iconst d_J7_fill_53178_0 (by decide) ?_
  refine z_istore_n (ls' := [qR a, qI v, qI 0, qU]) d_J7_fill_53178_1 rfl (by decide) rfl ?_
  refine z_aload_n d_J7_fill_53178_2 rfl rfl ?_
  refine z_alen d_J7_fill_53178_3 e0 (by omega) ?_
  refine z_istore_n (ls' := [qR a, qI v, qI 0, qI (n : Int)]) d_J7_fill_53178_4 rfl (by decide) rfl ?_
  refine z_eq (qc rfl (qc rfl (qc (qi (by omega)) (qc rfl rfl)))) rfl (by rw [qmx_0, qset_self e0]) (z_for n (fun i => [qR a, qI v, qI (i : Int), qI (n : Int)]) (fun i => (qset h a (qAr 0 n (qmx i (fun _ => v) f)))) (fun i => True) trivial (fun i hii hp kki => ?_) (fun hp => ?_))
  · show qEx M_J7_fill_53178 5 [qR a, qI v, qI (i : Int), qI (n : Int)] [] (qset h a (qAr 0 n (qmx i (fun _ => v) f))) r hr
    refine z_iload_n d_J7_fill_53178_5 rfl rfl ?_
    refine z_iload_n d_J7_fill_53178_6 rfl rfl ?_
    refine z_icmp_ge 20 d_J7_fill_53178_7 (by decide) (fun hc1 => absurd hc1 (by omega)) (fun hc1 => ?_)
    refine z_aload_n d_J7_fill_53178_10 rfl rfl ?_
    refine z_iload_n d_J7_fill_53178_11 rfl rfl ?_
    refine z_iload_n d_J7_fill_53178_12 rfl rfl ?_
    refine z_ist i d_J7_fill_53178_13 (qset_eq _ _ _) (by omega) rfl (by omega) ?_
    refine z_iinc (ls' := [qR a, qI v, qI ((i : Int) + 1), qI (n : Int)]) d_J7_fill_53178_14 rfl (by decide) (by omega) rfl ?_
    refine z_goto 5 d_J7_fill_53178_17 (by decide) ?_
    exact z_eq (qc rfl (qc rfl (qc (qi (by omega)) (qc rfl rfl)))) rfl (qset_ar (qmx_s i (fun _ => v) f)) (kki trivial)
  · show qEx M_J7_fill_53178 5 [qR a, qI v, qI (n : Int), qI (n : Int)] [] (qset h a (qAr 0 n (qmx n (fun _ => v) f))) r hr
    refine z_iload_n d_J7_fill_53178_5 rfl rfl ?_
    refine z_iload_n d_J7_fill_53178_6 rfl rfl ?_
    refine z_icmp_ge 20 d_J7_fill_53178_7 (by decide) (fun hc2 => ?_) (fun hc2 => absurd hc2 (by omega))
    exact z_vret d_J7_fill_53178_20 rfl er eh
set_option maxRecDepth 20000 in
set_option maxHeartbeats 4000000 in
theorem c_fillL {h : qH} {a n : Nat} {f : Nat → Int} {v : Int} (e0 : h.2.2 a = qAr 1 n f) (ha : a ≠ 1) (hn : n ≤ 100000) : qEx M_J7_fill_d0a16 0 [qR a, qL v, qU, qU, qU] [] h none (qset h a (qAr 1 n (qmx n (fun _ => v) f))) := by
  refine q_gen (fun r hr er eh => ?_)
  refine z_iconst d_J7_fill_d0a16_0 (by decide) ?_
  refine z_istore_n (ls' := [qR a, qL v, qU, qI 0, qU]) d_J7_fill_d0a16_1 rfl (by decide) rfl ?_
  refine z_aload_n d_J7_fill_d0a16_2 rfl rfl ?_
  refine z_alen1 d_J7_fill_d0a16_3 e0 (by omega) ?_
  refine z_istore (ls' := [qR a, qL v, qU, qI 0, qI (n : Int)]) d_J7_fill_d0a16_4 (by decide) rfl ?_
  refine z_eq (qc rfl (qc rfl (qc rfl (qc (qi (by omega)) (qc rfl rfl))))) rfl (by rw [qmx_0, qset_self e0]) (z_for n (fun i => [qR a, qL v, qU, qI (i : Int), qI (n : Int)]) (fun i => (qset h a (qAr 1 n (qmx i (fun _ => v) f)))) (fun i => True) trivial (fun i hii hp kki => ?_) (fun hp => ?_))
  · show qEx M_J7_fill_d0a16 6 [qR a, qL v, qU, qI (i : Int), qI (n : Int)] [] (qset h a (qAr 1 n (qmx i (fun _ => v) f))) r hr
    refine z_iload_n d_J7_fill_d0a16_6 rfl rfl ?_
    refine z_iload d_J7_fill_d0a16_7 rfl ?_
    refine z_icmp_ge 22 d_J7_fill_d0a16_9 (by decide) (fun hc1 => absurd hc1 (by omega)) (fun hc1 => ?_)
    refine z_aload_n d_J7_fill_d0a16_12 rfl rfl ?_
    refine z_iload_n d_J7_fill_d0a16_13 rfl rfl ?_
    refine z_lload_n d_J7_fill_d0a16_14 rfl rfl ?_
    refine z_lst i d_J7_fill_d0a16_15 (qset_eq _ _ _) (by omega) rfl (by omega) ?_
    refine z_iinc (ls' := [qR a, qL v, qU, qI ((i : Int) + 1), qI (n : Int)]) d_J7_fill_d0a16_16 rfl (by decide) (by omega) rfl ?_
    refine z_goto 6 d_J7_fill_d0a16_19 (by decide) ?_
    exact z_eq (qc rfl (qc rfl (qc rfl (qc (qi (by omega)) (qc rfl rfl))))) rfl (qset_ar (qmx_s i (fun _ => v) f)) (kki trivial)
  · show qEx M_J7_fill_d0a16 6 [qR a, qL v, qU, qI (n : Int), qI (n : Int)] [] (qset h a (qAr 1 n (qmx n (fun _ => v) f))) r hr
    refine z_iload_n d_J7_fill_d0a16_6 rfl rfl ?_
    refine z_iload d_J7_fill_d0a16_7 rfl ?_
    refine z_icmp_ge 22 d_J7_fill_d0a16_9 (by decide) (fun hc2 => ?_) (fun hc2 => absurd hc2 (by omega))
    exact z_vret d_J7_fill_d0a16_22 rfl er eh
