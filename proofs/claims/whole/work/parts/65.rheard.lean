/-! ===== CONTRACTS: the reference: heard ===== -/
noncomputable def hrT (N : Nat → Int) (n d i : Nat) : Int := if d = 0 then snL n (N 161 ≠ 0) (fun j => N (128 + j)) i else snR n (N 161 ≠ 0) (fun j => N (128 + j)) i
theorem hrT_bd {N : Nat → Int} {n d i : Nat} (hi : i < n) : -1 ≤ hrT N n d i ∧ hrT N n d i < n := by
  unfold hrT
  split
  · exact snL_bd _ hi
  · exact snR_bd _ hi
theorem c_beside {h : qH} {a n : Nat} {F : Nat → Int} (k d : Nat) (e0 : h.2.2 a = qAr 0 167 F) (hN : F 160 = (n : Int)) (hn : n ≤ 32) (hk : k < n) (hd : d < 2) : qEx M_X12_beside 0 [qR a, qI (k : Int), qI (d : Int), qU, qU, qU] [] h (some (qI (hrT F n d k))) h := by
  obtain rfl | rfl : d = 0 ∨ d = 1 := by omega
  · exact c_beside0 k e0 hN hn hk
  · exact c_beside1 k e0 hN hn hk
/-- how soon each knows it: i hears by its side d -/
noncomputable def hrX (N : Nat → Int) (n : Nat) (H : Nat → Int) (i d : Nat) : Nat → Int := qif (hrT N n d i ≠ -1 ∧ N (64 + i) = 0) (qup H i (if H i < H (hrT N n d i).toNat + 1 + N (96 + i) then H i else H (hrT N n d i).toNat + 1 + N (96 + i))) H
theorem hrX_t {N H : Nat → Int} {n i d : Nat} (h1 : hrT N n d i ≠ -1) (h2 : N (64 + i) = 0) : hrX N n H i d = qup H i (if H i < H (hrT N n d i).toNat + 1 + N (96 + i) then H i else H (hrT N n d i).toNat + 1 + N (96 + i)) := qif_t ⟨h1, h2⟩
theorem hrX_f {N H : Nat → Int} {n i d : Nat} (h : ¬ (hrT N n d i ≠ -1 ∧ N (64 + i) = 0)) : hrX N n H i d = H := qif_f h
noncomputable def hrD (N : Nat → Int) (n : Nat) (H : Nat → Int) (i : Nat) : Nat → Nat → Int
  | 0 => H
  | d + 1 => hrX N n (hrD N n H i d) i d
noncomputable def hrS (N : Nat → Int) (n : Nat) (H : Nat → Int) : Nat → Nat → Int
  | 0 => H
  | i + 1 => hrD N n (hrS N n H i) i 2
noncomputable def hrR (N : Nat → Int) (n : Nat) (k : Int) : Nat → Nat → Int
  | 0 => fun i => qif ((i : Int) ≠ k) 999 0
  | r + 1 => hrS N n (hrR N n k r) n
theorem hrX_bd {N H : Nat → Int} {n i d : Nat} (hi : i < n) (hn : n ≤ 32) (hL : ∀ j, j < 32 → 0 ≤ N (96 + j) ∧ N (96 + j) ≤ 1) (hH : ∀ j, j < n → 0 ≤ H j ∧ H j ≤ 999) : ∀ j, j < n → 0 ≤ hrX N n H i d j ∧ hrX N n H i d j ≤ 999 := by
  intro j hj
  by_cases h : hrT N n d i ≠ -1 ∧ N (64 + i) = 0
  · rw [hrX_t h.1 h.2]
    have h1 := hH i hi
    have hb := hrT_bd (N := N) (d := d) hi
    have h2 := hH (hrT N n d i).toNat (by omega)
    have h3 := hL i (by omega)
    have h4 := hH j hj
    by_cases e : j = i
    · rw [e, qup_eq]; split <;> omega
    · rw [qup_ne e]; exact h4
  · rw [hrX_f h]; exact hH j hj
theorem hrD_bd {N H : Nat → Int} {n i : Nat} (hi : i < n) (hn : n ≤ 32) (hL : ∀ j, j < 32 → 0 ≤ N (96 + j) ∧ N (96 + j) ≤ 1) (hH : ∀ j, j < n → 0 ≤ H j ∧ H j ≤ 999) : ∀ d j, j < n → 0 ≤ hrD N n H i d j ∧ hrD N n H i d j ≤ 999
  | 0, j, hj => hH j hj
  | d + 1, j, hj => hrX_bd hi hn hL (hrD_bd hi hn hL hH d) j hj
theorem hrS_bd {N H : Nat → Int} {n : Nat} (hn : n ≤ 32) (hL : ∀ j, j < 32 → 0 ≤ N (96 + j) ∧ N (96 + j) ≤ 1) (hH : ∀ j, j < n → 0 ≤ H j ∧ H j ≤ 999) : ∀ i, i ≤ n → ∀ j, j < n → 0 ≤ hrS N n H i j ∧ hrS N n H i j ≤ 999
  | 0, _, j, hj => hH j hj
  | i + 1, hi, j, hj => hrD_bd (by omega) hn hL (hrS_bd hn hL hH i (by omega)) 2 j hj
theorem hrR_bd {N : Nat → Int} {n : Nat} {k : Int} (hn : n ≤ 32) (hL : ∀ j, j < 32 → 0 ≤ N (96 + j) ∧ N (96 + j) ≤ 1) : ∀ r j, j < n → 0 ≤ hrR N n k r j ∧ hrR N n k r j ≤ 999
  | 0, j, _ => by
    show 0 ≤ qif ((j : Int) ≠ k) 999 0 ∧ qif ((j : Int) ≠ k) 999 0 ≤ (999 : Int)
    exact qif_or (fun z => 0 ≤ z ∧ z ≤ (999 : Int)) (by omega) (by omega)
  | r + 1, j, hj => hrS_bd hn hL (hrR_bd hn hL r) n (Nat.le_refl _) j hj
set_option maxRecDepth 20000 in
set_option maxHeartbeats 1000000 in
theorem c_heard_j {h : qH} {m : Nat} {f : Nat → Int} {g : Nat → Nat → Int} {n : Nat} (k : Int) (j : Nat) (t : Int) (hm : 2 ≤ m) (h0 : f 0 = 0) (hN : g 11 160 = (n : Int)) (hn : n ≤ 32) (hk : 0 ≤ k ∧ k < n) (hL : ∀ j, j < 32 → 0 ≤ g 11 (96 + j) ∧ g 11 (96 + j) ≤ 1) (hj : j < n) : ∃ g', (sq g g') ∧ qEx M_X12_heard 0 [qR m, qI k, qI (j : Int), qI t, qU, qU, qU, qU, qU] [] (rput h m f g) (some (qI (qif ((hrR (g 11) n k n) j < 999) ((hrR (g 11) n k n) j) (-1)))) (rput h m f g') := by
  refine y_in (fun Q hQ => ?_)
  refine qy (fun _ _ k9 => z_aload_n d_X12_heard_0 rfl rfl k9) ?_
  refine qy (fun _ _ k9 => z_iconst d_X12_heard_1 (by decide) k9) ?_
  refine qy (fun _ _ k9 => z_putf (fs' := [qI 0, qI (f 1), qI (f 2), qI (f 3), qI (f 4), qI (f 5), qI (f 6), qI (f 7), qR (m + 1), qR (m + 2), qR (m + 3), qR (m + 4), qR (m + 5), qR (m + 6), qR (m + 7), qR (m + 8), qR (m + 9), qR (m + 10), qI (f 18), qI (f 19), qI (f 20), qR (m + 11), qR (m + 12), qR (m + 13), qR (m + 14), qI (f 25), qR (m + 15), qI (f 27), qR (m + 16), qR (m + 17), qR (m + 18), qR (m + 19), qR (m + 20), qR (m + 21), qR (m + 22), qR (m + 23), qR (m + 24), qI (f 37), qI (f 38), qI (f 39), qI (f 40), qR (m + 25), qR (m + 26), qR (m + 27), qR (m + 28), qR (m + 29), qR (m + 30), qR (m + 31), qI (f 48), qR (m + 32), qR (m + 33), qR (m + 34), qR (m + 35), qR (m + 36), qR (m + 37)]) d_X12_heard_2 fp_X12_127 rput_o (fun _ => rfl) (fun _ => rfl) (Nat.le_of_ble_eq_true rfl) rfl k9) ?_
  refine qy (fun _ _ k9 => z_eq rfl rfl ((rput_sf (f' := qup f 0 0) rfl).trans (rput_cg (qup_self h0) rfl)) k9) ?_
  refine qy (fun _ _ k9 => z_aload_n d_X12_heard_5 rfl rfl k9) ?_
  refine qy (fun _ _ k9 => z_getf (v := qR (m + 11)) d_X12_heard_6 fl_X12_44 rput_o rfl k9) ?_
  refine qy (fun _ _ k9 => z_sipush d_X12_heard_9 (by decide) k9) ?_
  refine qy (fun _ _ k9 => z_ild 160 d_X12_heard_12 (rput_a2 11 (t := 0) (n := 167) (F := (g 11)) rfl rfl rfl (by decide) (by decide)) rfl (by omega) k9) ?_
  refine qy (fun _ _ k9 => z_eq rfl (qc (qi hN) rfl) rfl k9) ?_
  refine qy (fun _ _ k9 => z_istore (ls' := [qR m, qI k, qI (j : Int), qI t, qI (n : Int), qU, qU, qU, qU]) d_X12_heard_13 (by decide) rfl k9) ?_
  refine qy (fun _ _ k9 => z_iload_n d_X12_heard_15 rfl rfl k9) ?_
  refine qy (fun _ _ k9 => z_iconst d_X12_heard_16 (by decide) k9) ?_
  refine qy (fun _ _ k9 => z_iload d_X12_heard_17 rfl k9) ?_
  refine qy (fun _ _ k9 => z_iconst d_X12_heard_19 (by decide) k9) ?_
  refine qy (fun _ _ k9 => z_isub d_X12_heard_20 (by omega) k9) ?_
  refine qy (fun _ _ k9 => z_cs (M1 := M_X12_in) d_X12_heard_21 ls_X12_137 k_X12_in [qI k, qI 0, qI ((n : Int) - 1)] rfl rfl (Nat.le_of_ble_eq_true rfl) (by decide) (by decide) (Nat.le_of_ble_eq_true rfl) (c_in k 0 ((n : Int) - 1)) k9) ?_
  refine qy2n (fun _ _ => z_ifeqB 60 d_X12_heard_24 (by decide)) (fun hc1 => absurd hc1 (by omega)) (fun hc1 => ?_)
  refine qy (fun _ _ k9 => z_iload_n d_X12_heard_27 rfl rfl k9) ?_
  refine qy (fun _ _ k9 => z_iconst d_X12_heard_28 (by decide) k9) ?_
  refine qy2 (fun _ _ => z_icmp_eq 44 d_X12_heard_29 (by decide)) (fun hc2 => absurd hc2 (by omega)) (fun hc2 => ?_)
  refine qy (fun _ _ k9 => z_iload_n d_X12_heard_32 rfl rfl k9) ?_
  refine qy (fun _ _ k9 => z_iconst d_X12_heard_33 (by decide) k9) ?_
  refine qy (fun _ _ k9 => z_iload d_X12_heard_34 rfl k9) ?_
  refine qy (fun _ _ k9 => z_iconst d_X12_heard_36 (by decide) k9) ?_
  refine qy (fun _ _ k9 => z_isub d_X12_heard_37 (by omega) k9) ?_
  refine qy (fun _ _ k9 => z_cs (M1 := M_X12_in) d_X12_heard_38 ls_X12_137 k_X12_in [qI (j : Int), qI 0, qI ((n : Int) - 1)] rfl rfl (Nat.le_of_ble_eq_true rfl) (by decide) (by decide) (Nat.le_of_ble_eq_true rfl) (c_in (j : Int) 0 ((n : Int) - 1)) k9) ?_
  refine qy2n (fun _ _ => z_ifeqB 60 d_X12_heard_41 (by decide)) (fun hc3 => absurd hc3 (by omega)) (fun hc3 => ?_)
  refine qy (fun _ _ k9 => z_iload_n d_X12_heard_44 rfl rfl k9) ?_
  refine qy (fun _ _ k9 => z_iconst d_X12_heard_45 (by decide) k9) ?_
  refine qy2 (fun _ _ => z_icmp_ne 62 d_X12_heard_46 (by decide)) (fun hc4 => ?_) (fun hc4 => absurd hc4 (by omega))
  refine qy (fun _ _ k9 => z_iconst d_X12_heard_62 (by decide) k9) ?_
  refine qy (fun _ _ k9 => z_istore (ls' := [qR m, qI k, qI (j : Int), qI t, qI (n : Int), qI 0, qU, qU, qU]) d_X12_heard_63 (by decide) rfl k9) ?_
  refine qy (fun _ _ k9 => z_eq (qc rfl (qc rfl (qc rfl (qc rfl (qc rfl (qc (qi (by omega)) (qc rfl (qc rfl (qc rfl rfl))))))))) rfl rfl k9) (y_wh2 (fun (i1 : Nat) (x1 : Nat → Nat → Int) => n - i1) (fun (i1 : Nat) (x1 : Nat → Nat → Int) => [qR m, qI k, qI (j : Int), qI t, qI (n : Int), qI (i1 : Int), qU, qU, qU]) (fun (i1 : Nat) (x1 : Nat → Nat → Int) => (rput h m f x1)) (fun (i1 : Nat) (x1 : Nat → Nat → Int) => i1 ≤ n ∧ sq g x1 ∧ ∀ j, j < i1 → x1 37 j = (hrR (g 11) n k 0) j) 0 g (⟨by omega, sq_rf, fun j hj => absurd hj (by omega)⟩) (fun i1 x1 hp1 kk1 => ?_))
  obtain ⟨hi1, hs1, hH1⟩ := hp1
  show qEy M_X12_heard 65 [qR m, qI k, qI (j : Int), qI t, qI (n : Int), qI (i1 : Int), qU, qU, qU] [] (rput h m f x1) Q
  refine qy (fun _ _ k9 => z_iload d_X12_heard_65 rfl k9) ?_
  refine qy (fun _ _ k9 => z_iload d_X12_heard_67 rfl k9) ?_
  refine qy2 (fun _ _ => z_icmp_ge 98 d_X12_heard_69 (by decide)) (fun hc5 => ?_) (fun hc5 => ?_)
  · refine qy (fun _ _ k9 => z_iconst d_X12_heard_98 (by decide) k9) ?_
    refine qy (fun _ _ k9 => z_istore (ls' := [qR m, qI k, qI (j : Int), qI t, qI (n : Int), qI 0, qU, qU, qU]) d_X12_heard_99 (by decide) rfl k9) ?_
    refine qy (fun _ _ k9 => z_eq (qc rfl (qc rfl (qc rfl (qc rfl (qc rfl (qc (qi (by omega)) (qc rfl (qc rfl (qc rfl rfl))))))))) rfl rfl k9) (y_wh2 (fun (r2 : Nat) (x2 : Nat → Nat → Int) => n - r2) (fun (r2 : Nat) (x2 : Nat → Nat → Int) => [qR m, qI k, qI (j : Int), qI t, qI (n : Int), qI (r2 : Int), qU, qU, qU]) (fun (r2 : Nat) (x2 : Nat → Nat → Int) => (rput h m f x2)) (fun (r2 : Nat) (x2 : Nat → Nat → Int) => r2 ≤ n ∧ sq g x2 ∧ ∀ j, j < n → x2 37 j = (hrR (g 11) n k r2) j) 0 x1 (⟨by omega, hs1, fun j hj => hH1 j (by omega)⟩) (fun r2 x2 hp2 kk2 => ?_))
    obtain ⟨hr2, hs2, hH2⟩ := hp2
    show qEy M_X12_heard 101 [qR m, qI k, qI (j : Int), qI t, qI (n : Int), qI (r2 : Int), qU, qU, qU] [] (rput h m f x2) Q
    refine qy (fun _ _ k9 => z_iload d_X12_heard_101 rfl k9) ?_
    refine qy (fun _ _ k9 => z_iload d_X12_heard_103 rfl k9) ?_
    refine qy2 (fun _ _ => z_icmp_ge 214 d_X12_heard_105 (by decide)) (fun hc6 => ?_) (fun hc6 => ?_)
    · refine qy (fun _ _ k9 => z_iload_n d_X12_heard_214 rfl rfl k9) ?_
      refine qy (fun _ _ k9 => z_iconst d_X12_heard_215 (by decide) k9) ?_
      refine qy2 (fun _ _ => z_icmp_eq 242 d_X12_heard_216 (by decide)) (fun hc7 => absurd hc7 (by omega)) (fun hc7 => ?_)
      refine qy (fun _ _ k9 => z_aload_n d_X12_heard_219 rfl rfl k9) ?_
      refine qy (fun _ _ k9 => z_getf (v := qR (m + 37)) d_X12_heard_220 fl_X12_124 rput_o rfl k9) ?_
      refine qy (fun _ _ k9 => z_iload_n d_X12_heard_223 rfl rfl k9) ?_
      refine qy (fun _ _ k9 => z_ild j d_X12_heard_224 (rput_a2 37 (t := 0) (n := 32) (F := (x2 37)) rfl rfl rfl (by decide) (by decide)) rfl (by omega) k9) ?_
      refine qy (fun _ _ k9 => z_eq rfl (qc (qi (show ((x2 37) j) = ((hrR (g 11) n k n) j) from by rw [hH2 j (by omega), show r2 = n by omega])) rfl) rfl k9) ?_
      refine qy (fun _ _ k9 => z_sipush d_X12_heard_225 (by decide) k9) ?_
      refine qy2 (fun _ _ => z_icmp_lt 235 d_X12_heard_228 (by decide)) (fun hc8 => ?_) (fun hc8 => ?_)
      · refine qy (fun _ _ k9 => z_aload_n d_X12_heard_235 rfl rfl k9) ?_
        refine qy (fun _ _ k9 => z_getf (v := qR (m + 37)) d_X12_heard_236 fl_X12_124 rput_o rfl k9) ?_
        refine qy (fun _ _ k9 => z_iload_n d_X12_heard_239 rfl rfl k9) ?_
        refine qy (fun _ _ k9 => z_ild j d_X12_heard_240 (rput_a2 37 (t := 0) (n := 32) (F := (x2 37)) rfl rfl rfl (by decide) (by decide)) rfl (by omega) k9) ?_
        exact y_ret (hQ x2 hs2) (z_iret d_X12_heard_241 rfl (qsi (by first | rw [qif_t (by assumption), hH2 j (by omega), show r2 = n by omega] | rw [qif_f (by assumption)])) rfl)
      · refine qy (fun _ _ k9 => z_iconst d_X12_heard_231 (by decide) k9) ?_
        refine qy (fun _ _ k9 => z_goto 241 d_X12_heard_232 (by decide) k9) ?_
        exact y_ret (hQ x2 hs2) (z_iret d_X12_heard_241 rfl (qsi (by first | rw [qif_t (by assumption), hH2 j (by omega), show r2 = n by omega] | rw [qif_f (by assumption)])) rfl)
    · refine qy (fun _ _ k9 => z_iconst d_X12_heard_108 (by decide) k9) ?_
      refine qy (fun _ _ k9 => z_istore (ls' := [qR m, qI k, qI (j : Int), qI t, qI (n : Int), qI (r2 : Int), qI 0, qU, qU]) d_X12_heard_109 (by decide) rfl k9) ?_
      refine qy (fun _ _ k9 => z_eq (qc rfl (qc rfl (qc rfl (qc rfl (qc rfl (qc rfl (qc (qi (by omega)) (qc rfl (qc rfl rfl))))))))) rfl rfl k9) (y_wh2 (fun (i3 : Nat) (x3 : Nat → Nat → Int) => n - i3) (fun (i3 : Nat) (x3 : Nat → Nat → Int) => [qR m, qI k, qI (j : Int), qI t, qI (n : Int), qI (r2 : Int), qI (i3 : Int), qU, qU]) (fun (i3 : Nat) (x3 : Nat → Nat → Int) => (rput h m f x3)) (fun (i3 : Nat) (x3 : Nat → Nat → Int) => i3 ≤ n ∧ sq g x3 ∧ ∀ j, j < n → x3 37 j = (hrS (g 11) n (hrR (g 11) n k r2) i3) j) 0 x2 (⟨by omega, hs2, hH2⟩) (fun i3 x3 hp3 kk3 => ?_))
      obtain ⟨hi3, hs3, hH3⟩ := hp3
      show qEy M_X12_heard 111 [qR m, qI k, qI (j : Int), qI t, qI (n : Int), qI (r2 : Int), qI (i3 : Int), qU, qU] [] (rput h m f x3) Q
      refine qy (fun _ _ k9 => z_iload d_X12_heard_111 rfl k9) ?_
      refine qy (fun _ _ k9 => z_iload d_X12_heard_113 rfl k9) ?_
      refine qy2 (fun _ _ => z_icmp_ge 208 d_X12_heard_115 (by decide)) (fun hc9 => ?_) (fun hc9 => ?_)
      · refine qy (fun _ _ k9 => z_iinc (ls' := [qR m, qI k, qI (j : Int), qI t, qI (n : Int), qI ((r2 : Int) + 1), qI (i3 : Int), qU, qU]) d_X12_heard_208 rfl (by decide) (by omega) rfl k9) ?_
        refine qy (fun _ _ k9 => z_goto 101 d_X12_heard_211 (by decide) k9) ?_
        exact qy (fun _ _ k9 => z_dr (qle_k rfl (qle_k rfl (qle_k rfl (qle_k rfl (qle_k rfl (qle_k (qi (by omega)) (qle_d (qle_k rfl (qle_k rfl qle_n))))))))) rfl rfl k9) (kk2 (r2 + 1) x3 (⟨by omega, hs3, fun j hj => by rw [hH3 j hj, show i3 = n by omega]; rfl⟩) (by omega))
      · have hi9 : i3 < n := by omega
        refine qy (fun _ _ k9 => z_iconst d_X12_heard_118 (by decide) k9) ?_
        refine qy (fun _ _ k9 => z_istore (ls' := [qR m, qI k, qI (j : Int), qI t, qI (n : Int), qI (r2 : Int), qI (i3 : Int), qI 0, qU]) d_X12_heard_119 (by decide) rfl k9) ?_
        refine qy (fun _ _ k9 => z_eq (qc rfl (qc rfl (qc rfl (qc rfl (qc rfl (qc rfl (qc rfl (qc (qi (by omega)) (qc rfl rfl))))))))) rfl rfl k9) (y_wh2 (fun (d4 : Nat) (x4 : Nat → Nat → Int) => 2 - d4) (fun (d4 : Nat) (x4 : Nat → Nat → Int) => [qR m, qI k, qI (j : Int), qI t, qI (n : Int), qI (r2 : Int), qI (i3 : Int), qI (d4 : Int), qU]) (fun (d4 : Nat) (x4 : Nat → Nat → Int) => (rput h m f x4)) (fun (d4 : Nat) (x4 : Nat → Nat → Int) => d4 ≤ 2 ∧ sq g x4 ∧ ∀ j, j < n → x4 37 j = (hrD (g 11) n (hrS (g 11) n (hrR (g 11) n k r2) i3) i3 d4) j) 0 x3 (⟨by omega, hs3, hH3⟩) (fun d4 x4 hp4 kk4 => ?_))
        obtain ⟨hd4, hs4, hH4⟩ := hp4
        show qEy M_X12_heard 121 [qR m, qI k, qI (j : Int), qI t, qI (n : Int), qI (r2 : Int), qI (i3 : Int), qI (d4 : Int), qU] [] (rput h m f x4) Q
        have hb4 := hrD_bd (show i3 < n from hi9) hn hL (hrS_bd hn hL (hrR_bd (k := k) hn hL r2) i3 (by omega)) d4
        have ht4 := hrT_bd (N := (g 11)) (d := d4) hi9
        have hl4 := hL i3 (by omega)
        refine qy (fun _ _ k9 => z_iload d_X12_heard_121 rfl k9) ?_
        refine qy (fun _ _ k9 => z_iconst d_X12_heard_123 (by decide) k9) ?_
        refine qy2 (fun _ _ => z_icmp_ge 202 d_X12_heard_124 (by decide)) (fun hc10 => ?_) (fun hc10 => ?_)
        · refine qy (fun _ _ k9 => z_iinc (ls' := [qR m, qI k, qI (j : Int), qI t, qI (n : Int), qI (r2 : Int), qI ((i3 : Int) + 1), qI (d4 : Int), qU]) d_X12_heard_202 rfl (by decide) (by omega) rfl k9) ?_
          refine qy (fun _ _ k9 => z_goto 111 d_X12_heard_205 (by decide) k9) ?_
          exact qy (fun _ _ k9 => z_dr (qle_k rfl (qle_k rfl (qle_k rfl (qle_k rfl (qle_k rfl (qle_k rfl (qle_k (qi (by omega)) (qle_d (qle_k rfl qle_n))))))))) rfl rfl k9) (kk3 (i3 + 1) x4 (⟨by omega, hs4, fun j hj => by rw [hH4 j hj, show d4 = 2 by omega]; rfl⟩) (by omega))
        · refine qy (fun _ _ k9 => z_aload_n d_X12_heard_127 rfl rfl k9) ?_
          refine qy (fun _ _ k9 => z_getf (v := qR (m + 11)) d_X12_heard_128 fl_X12_44 rput_o rfl k9) ?_
          refine qy (fun _ _ k9 => z_iload d_X12_heard_131 rfl k9) ?_
          refine qy (fun _ _ k9 => z_iload d_X12_heard_133 rfl k9) ?_
          refine qy (fun _ _ k9 => z_cs (M1 := M_X12_beside) d_X12_heard_135 ls_X12_292 k_X12_beside [qR (m + 11), qI (i3 : Int), qI (d4 : Int)] rfl rfl (Nat.le_of_ble_eq_true rfl) (by decide) (by decide) (Nat.le_of_ble_eq_true rfl) (c_beside i3 d4 (rput_a2 11 (t := 0) (n := 167) (F := (x4 11)) rfl rfl rfl (by decide) (by decide)) (by rw [hs4 11 (by decide) (by decide)]; exact hN) hn (by omega) (by omega)) k9) ?_
          refine qy (fun _ _ k9 => z_eq rfl (qc (qi (show (hrT (x4 11) n d4 i3) = (hrT (g 11) n d4 i3) from by rw [hs4 11 (by decide) (by decide)])) rfl) rfl k9) ?_
          refine qy (fun _ _ k9 => z_istore (ls' := [qR m, qI k, qI (j : Int), qI t, qI (n : Int), qI (r2 : Int), qI (i3 : Int), qI (d4 : Int), qI (hrT (g 11) n d4 i3)]) d_X12_heard_138 (by decide) rfl k9) ?_
          refine qy (fun _ _ k9 => z_iload d_X12_heard_140 rfl k9) ?_
          refine qy (fun _ _ k9 => z_iconst d_X12_heard_142 (by decide) k9) ?_
          refine qy2 (fun _ _ => z_icmp_eq 196 d_X12_heard_143 (by decide)) (fun q1 => ?_) (fun q1 => ?_)
          · refine qy (fun _ _ k9 => z_iinc (ls' := [qR m, qI k, qI (j : Int), qI t, qI (n : Int), qI (r2 : Int), qI (i3 : Int), qI ((d4 : Int) + 1), qI (hrT (g 11) n d4 i3)]) d_X12_heard_196 rfl (by decide) (by omega) rfl k9) ?_
            refine qy (fun _ _ k9 => z_goto 121 d_X12_heard_199 (by decide) k9) ?_
            exact qy (fun _ _ k9 => z_dr (qle_k rfl (qle_k rfl (qle_k rfl (qle_k rfl (qle_k rfl (qle_k rfl (qle_k rfl (qle_k (qi (by omega)) (qle_d qle_n))))))))) rfl rfl k9) (kk4 (d4 + 1) x4 (⟨by omega, hs4, fun j hj => by show _ = hrX (g 11) n (hrD (g 11) n (hrS (g 11) n (hrR (g 11) n k r2) i3) i3 d4) i3 d4 j; rw [hrX_f (fun z9 => by first | exact z9.1 q1 | exact q2 z9.2)]; exact hH4 j hj⟩) (by omega))
          · refine qy (fun _ _ k9 => z_aload_n d_X12_heard_146 rfl rfl k9) ?_
            refine qy (fun _ _ k9 => z_getf (v := qR (m + 11)) d_X12_heard_147 fl_X12_44 rput_o rfl k9) ?_
            refine qy (fun _ _ k9 => z_bipush d_X12_heard_150 (by decide) k9) ?_
            refine qy (fun _ _ k9 => z_iload d_X12_heard_152 rfl k9) ?_
            refine qy (fun _ _ k9 => z_iadd d_X12_heard_154 (by omega) k9) ?_
            refine qy (fun _ _ k9 => z_ild (64 + i3) d_X12_heard_155 (rput_a2 11 (t := 0) (n := 167) (F := (x4 11)) rfl rfl rfl (by decide) (by decide)) rfl (by omega) k9) ?_
            refine qy (fun _ _ k9 => z_eq rfl (qc (qi (show ((x4 11) (64 + i3)) = ((g 11) (64 + i3)) from congrFun (hs4 11 (by decide) (by decide)) _)) rfl) rfl k9) ?_
            refine qy2 (fun _ _ => z_if_ne 196 d_X12_heard_156 (by decide)) (fun q2 => ?_) (fun q2 => ?_)
            · refine qy (fun _ _ k9 => z_iinc (ls' := [qR m, qI k, qI (j : Int), qI t, qI (n : Int), qI (r2 : Int), qI (i3 : Int), qI ((d4 : Int) + 1), qI (hrT (g 11) n d4 i3)]) d_X12_heard_196 rfl (by decide) (by omega) rfl k9) ?_
              refine qy (fun _ _ k9 => z_goto 121 d_X12_heard_199 (by decide) k9) ?_
              exact qy (fun _ _ k9 => z_dr (qle_k rfl (qle_k rfl (qle_k rfl (qle_k rfl (qle_k rfl (qle_k rfl (qle_k rfl (qle_k (qi (by omega)) (qle_d qle_n))))))))) rfl rfl k9) (kk4 (d4 + 1) x4 (⟨by omega, hs4, fun j hj => by show _ = hrX (g 11) n (hrD (g 11) n (hrS (g 11) n (hrR (g 11) n k r2) i3) i3 d4) i3 d4 j; rw [hrX_f (fun z9 => by first | exact z9.1 q1 | exact q2 z9.2)]; exact hH4 j hj⟩) (by omega))
            · refine qy (fun _ _ k9 => z_aload_n d_X12_heard_159 rfl rfl k9) ?_
              refine qy (fun _ _ k9 => z_getf (v := qR (m + 37)) d_X12_heard_160 fl_X12_124 rput_o rfl k9) ?_
              refine qy (fun _ _ k9 => z_iload d_X12_heard_163 rfl k9) ?_
              refine qy (fun _ _ k9 => z_aload_n d_X12_heard_165 rfl rfl k9) ?_
              refine qy (fun _ _ k9 => z_getf (v := qR (m + 37)) d_X12_heard_166 fl_X12_124 rput_o rfl k9) ?_
              refine qy (fun _ _ k9 => z_iload d_X12_heard_169 rfl k9) ?_
              refine qy (fun _ _ k9 => z_ild i3 d_X12_heard_171 (rput_a2 37 (t := 0) (n := 32) (F := (x4 37)) rfl rfl rfl (by decide) (by decide)) rfl (by omega) k9) ?_
              refine qy (fun _ _ k9 => z_eq rfl (qc (qi (show ((x4 37) i3) = ((hrD (g 11) n (hrS (g 11) n (hrR (g 11) n k r2) i3) i3 d4) i3) from hH4 i3 (by omega))) rfl) rfl k9) ?_
              refine qy (fun _ _ k9 => z_aload_n d_X12_heard_172 rfl rfl k9) ?_
              refine qy (fun _ _ k9 => z_getf (v := qR (m + 37)) d_X12_heard_173 fl_X12_124 rput_o rfl k9) ?_
              refine qy (fun _ _ k9 => z_iload d_X12_heard_176 rfl k9) ?_
              refine qy (fun _ _ k9 => z_ild ((hrT (g 11) n d4 i3).toNat) d_X12_heard_178 (rput_a2 37 (t := 0) (n := 32) (F := (x4 37)) rfl rfl rfl (by decide) (by decide)) (by omega) (by omega) k9) ?_
              have hb5 := hb4 (hrT (g 11) n d4 i3).toNat (by omega)
              have hb6 := hb4 i3 hi9
              refine qy (fun _ _ k9 => z_eq rfl (qc (qi (show ((x4 37) ((hrT (g 11) n d4 i3).toNat)) = ((hrD (g 11) n (hrS (g 11) n (hrR (g 11) n k r2) i3) i3 d4) (hrT (g 11) n d4 i3).toNat) from hH4 _ (by omega))) rfl) rfl k9) ?_
              refine qy (fun _ _ k9 => z_iconst d_X12_heard_179 (by decide) k9) ?_
              refine qy (fun _ _ k9 => z_iadd d_X12_heard_180 (by omega) k9) ?_
              refine qy (fun _ _ k9 => z_aload_n d_X12_heard_181 rfl rfl k9) ?_
              refine qy (fun _ _ k9 => z_getf (v := qR (m + 11)) d_X12_heard_182 fl_X12_44 rput_o rfl k9) ?_
              refine qy (fun _ _ k9 => z_bipush d_X12_heard_185 (by decide) k9) ?_
              refine qy (fun _ _ k9 => z_iload d_X12_heard_187 rfl k9) ?_
              refine qy (fun _ _ k9 => z_iadd d_X12_heard_189 (by omega) k9) ?_
              refine qy (fun _ _ k9 => z_ild (96 + i3) d_X12_heard_190 (rput_a2 11 (t := 0) (n := 167) (F := (x4 11)) rfl rfl rfl (by decide) (by decide)) rfl (by omega) k9) ?_
              refine qy (fun _ _ k9 => z_eq rfl (qc (qi (show ((x4 11) (96 + i3)) = ((g 11) (96 + i3)) from congrFun (hs4 11 (by decide) (by decide)) _)) rfl) rfl k9) ?_
              refine qy (fun _ _ k9 => z_iadd d_X12_heard_191 (by omega) k9) ?_
              refine qy (fun _ _ k9 => z_cs (M1 := M_X12_less) d_X12_heard_192 ls_X12_357 k_X12_less [qI ((hrD (g 11) n (hrS (g 11) n (hrR (g 11) n k r2) i3) i3 d4) i3), qI ((((hrD (g 11) n (hrS (g 11) n (hrR (g 11) n k r2) i3) i3 d4) (hrT (g 11) n d4 i3).toNat) + 1) + ((g 11) (96 + i3)))] rfl rfl (Nat.le_of_ble_eq_true rfl) (by decide) (by decide) (Nat.le_of_ble_eq_true rfl) (c_less ((hrD (g 11) n (hrS (g 11) n (hrR (g 11) n k r2) i3) i3 d4) i3) ((((hrD (g 11) n (hrS (g 11) n (hrR (g 11) n k r2) i3) i3 d4) (hrT (g 11) n d4 i3).toNat) + 1) + ((g 11) (96 + i3)))) k9) ?_
              refine qy (fun _ _ k9 => z_ist i3 d_X12_heard_195 (rput_a2 37 (t := 0) (n := 32) (F := (x4 37)) rfl rfl rfl (by decide) (by decide)) (by omega) rfl (by omega) k9) ?_
              refine qy (fun _ _ k9 => z_eq rfl rfl (rput_sa 37 rfl rfl (by decide) (by decide)) k9) ?_
              refine qy (fun _ _ k9 => z_iinc (ls' := [qR m, qI k, qI (j : Int), qI t, qI (n : Int), qI (r2 : Int), qI (i3 : Int), qI ((d4 : Int) + 1), qI (hrT (g 11) n d4 i3)]) d_X12_heard_196 rfl (by decide) (by omega) rfl k9) ?_
              refine qy (fun _ _ k9 => z_goto 121 d_X12_heard_199 (by decide) k9) ?_
              exact qy (fun _ _ k9 => z_dr (qle_k rfl (qle_k rfl (qle_k rfl (qle_k rfl (qle_k rfl (qle_k rfl (qle_k rfl (qle_k (qi (by omega)) (qle_d qle_n))))))))) rfl rfl k9) (kk4 (d4 + 1) (gup x4 37 (qup (x4 37) i3 (if ((hrD (g 11) n (hrS (g 11) n (hrR (g 11) n k r2) i3) i3 d4) i3) < ((((hrD (g 11) n (hrS (g 11) n (hrR (g 11) n k r2) i3) i3 d4) (hrT (g 11) n d4 i3).toNat) + 1) + ((g 11) (96 + i3))) then ((hrD (g 11) n (hrS (g 11) n (hrR (g 11) n k r2) i3) i3 d4) i3) else ((((hrD (g 11) n (hrS (g 11) n (hrR (g 11) n k r2) i3) i3 d4) (hrT (g 11) n d4 i3).toNat) + 1) + ((g 11) (96 + i3)))))) (⟨by omega, (sq_up hs4 (by decide)), fun j hj => by show qup (x4 37) i3 _ j = hrX (g 11) n (hrD (g 11) n (hrS (g 11) n (hrR (g 11) n k r2) i3) i3 d4) i3 d4 j; rw [hrX_t q1 (by omega)]; by_cases e : j = i3; (rw [e, qup_eq, qup_eq]); (rw [qup_ne e, qup_ne e]; exact hH4 j hj)⟩) (by omega))
  · refine qy (fun _ _ k9 => z_aload_n d_X12_heard_72 rfl rfl k9) ?_
    refine qy (fun _ _ k9 => z_getf (v := qR (m + 37)) d_X12_heard_73 fl_X12_124 rput_o rfl k9) ?_
    refine qy (fun _ _ k9 => z_iload d_X12_heard_76 rfl k9) ?_
    refine qy (fun _ _ k9 => z_iload d_X12_heard_78 rfl k9) ?_
    refine qy (fun _ _ k9 => z_iload_n d_X12_heard_80 rfl rfl k9) ?_
    suffices kJ81 : qEy M_X12_heard 91 [qR m, qI k, qI (j : Int), qI t, qI (n : Int), qI (i1 : Int), qU, qU, qU] [qI (qif ((i1 : Int) ≠ k) 999 0), qI (i1 : Int), qR (m + 37)] (rput h m f x1) Q by
      refine qy2 (fun _ _ => z_icmp_ne 88 d_X12_heard_81 (by decide)) (fun hc11 => ?_) (fun hc11 => ?_)
      · refine qy (fun _ _ k9 => z_sipush d_X12_heard_88 (by decide) k9) ?_
        exact qy (fun _ _ k9 => z_eq rfl (qc (qi (qif_t hc11).symm) (qc rfl (qc rfl rfl))) rfl k9) kJ81
      · refine qy (fun _ _ k9 => z_iconst d_X12_heard_84 (by decide) k9) ?_
        refine qy (fun _ _ k9 => z_goto 91 d_X12_heard_85 (by decide) k9) ?_
        exact qy (fun _ _ k9 => z_eq rfl (qc (qi (qif_f hc11).symm) (qc rfl (qc rfl rfl))) rfl k9) kJ81
    refine qy (fun _ _ k9 => z_ist i1 d_X12_heard_91 (rput_a2 37 (t := 0) (n := 32) (F := (x1 37)) rfl rfl rfl (by decide) (by decide)) (by omega) rfl (by omega) k9) ?_
    refine qy (fun _ _ k9 => z_eq rfl rfl (rput_sa 37 rfl rfl (by decide) (by decide)) k9) ?_
    refine qy (fun _ _ k9 => z_iinc (ls' := [qR m, qI k, qI (j : Int), qI t, qI (n : Int), qI ((i1 : Int) + 1), qU, qU, qU]) d_X12_heard_92 rfl (by decide) (by omega) rfl k9) ?_
    refine qy (fun _ _ k9 => z_goto 65 d_X12_heard_95 (by decide) k9) ?_
    exact qy (fun _ _ k9 => z_eq (qc rfl (qc rfl (qc rfl (qc rfl (qc rfl (qc (qi (by omega)) (qc rfl (qc rfl (qc rfl rfl))))))))) rfl rfl k9) (kk1 (i1 + 1) (gup x1 37 (qup (x1 37) i1 (qif ((i1 : Int) ≠ k) 999 0))) (⟨by omega, (sq_up hs1 (by decide)), fun j hj => if e : j = i1 then (by show qup (x1 37) i1 _ j = _; rw [e, qup_eq]; rfl) else (by show qup (x1 37) i1 _ j = _; rw [qup_ne e]; exact hH1 j (by omega))⟩) (by omega))
set_option maxRecDepth 20000 in
set_option maxHeartbeats 1000000 in
theorem c_heard_t {h : qH} {m : Nat} {f : Nat → Int} {g : Nat → Nat → Int} {n : Nat} (k t : Int) (hm : 2 ≤ m) (h0 : f 0 = 0) (hN : g 11 160 = (n : Int)) (hn : n ≤ 32) (hk : 0 ≤ k ∧ k < n) (hL : ∀ j, j < 32 → 0 ≤ g 11 (96 + j) ∧ g 11 (96 + j) ≤ 1) (ht : 0 ≤ t ∧ t ≤ 200) : ∃ g', (sq g g') ∧ qEx M_X12_heard 0 [qR m, qI k, qI (-1), qI t, qU, qU, qU, qU, qU] [] (rput h m f g) (some (qI (cnt (fun q9 => (hrR (g 11) n k n) q9 ≤ t) n))) (rput h m f g') := by
  refine y_in (fun Q hQ => ?_)
  refine qy (fun _ _ k9 => z_aload_n d_X12_heard_0 rfl rfl k9) ?_
  refine qy (fun _ _ k9 => z_iconst d_X12_heard_1 (by decide) k9) ?_
  refine qy (fun _ _ k9 => z_putf (fs' := [qI 0, qI (f 1), qI (f 2), qI (f 3), qI (f 4), qI (f 5), qI (f 6), qI (f 7), qR (m + 1), qR (m + 2), qR (m + 3), qR (m + 4), qR (m + 5), qR (m + 6), qR (m + 7), qR (m + 8), qR (m + 9), qR (m + 10), qI (f 18), qI (f 19), qI (f 20), qR (m + 11), qR (m + 12), qR (m + 13), qR (m + 14), qI (f 25), qR (m + 15), qI (f 27), qR (m + 16), qR (m + 17), qR (m + 18), qR (m + 19), qR (m + 20), qR (m + 21), qR (m + 22), qR (m + 23), qR (m + 24), qI (f 37), qI (f 38), qI (f 39), qI (f 40), qR (m + 25), qR (m + 26), qR (m + 27), qR (m + 28), qR (m + 29), qR (m + 30), qR (m + 31), qI (f 48), qR (m + 32), qR (m + 33), qR (m + 34), qR (m + 35), qR (m + 36), qR (m + 37)]) d_X12_heard_2 fp_X12_127 rput_o (fun _ => rfl) (fun _ => rfl) (Nat.le_of_ble_eq_true rfl) rfl k9) ?_
  refine qy (fun _ _ k9 => z_eq rfl rfl ((rput_sf (f' := qup f 0 0) rfl).trans (rput_cg (qup_self h0) rfl)) k9) ?_
  refine qy (fun _ _ k9 => z_aload_n d_X12_heard_5 rfl rfl k9) ?_
  refine qy (fun _ _ k9 => z_getf (v := qR (m + 11)) d_X12_heard_6 fl_X12_44 rput_o rfl k9) ?_
  refine qy (fun _ _ k9 => z_sipush d_X12_heard_9 (by decide) k9) ?_
  refine qy (fun _ _ k9 => z_ild 160 d_X12_heard_12 (rput_a2 11 (t := 0) (n := 167) (F := (g 11)) rfl rfl rfl (by decide) (by decide)) rfl (by omega) k9) ?_
  refine qy (fun _ _ k9 => z_eq rfl (qc (qi hN) rfl) rfl k9) ?_
  refine qy (fun _ _ k9 => z_istore (ls' := [qR m, qI k, qI (-1), qI t, qI (n : Int), qU, qU, qU, qU]) d_X12_heard_13 (by decide) rfl k9) ?_
  refine qy (fun _ _ k9 => z_iload_n d_X12_heard_15 rfl rfl k9) ?_
  refine qy (fun _ _ k9 => z_iconst d_X12_heard_16 (by decide) k9) ?_
  refine qy (fun _ _ k9 => z_iload d_X12_heard_17 rfl k9) ?_
  refine qy (fun _ _ k9 => z_iconst d_X12_heard_19 (by decide) k9) ?_
  refine qy (fun _ _ k9 => z_isub d_X12_heard_20 (by omega) k9) ?_
  refine qy (fun _ _ k9 => z_cs (M1 := M_X12_in) d_X12_heard_21 ls_X12_137 k_X12_in [qI k, qI 0, qI ((n : Int) - 1)] rfl rfl (Nat.le_of_ble_eq_true rfl) (by decide) (by decide) (Nat.le_of_ble_eq_true rfl) (c_in k 0 ((n : Int) - 1)) k9) ?_
  refine qy2n (fun _ _ => z_ifeqB 60 d_X12_heard_24 (by decide)) (fun hc1 => absurd hc1 (by omega)) (fun hc1 => ?_)
  refine qy (fun _ _ k9 => z_iload_n d_X12_heard_27 rfl rfl k9) ?_
  refine qy (fun _ _ k9 => z_iconst d_X12_heard_28 (by decide) k9) ?_
  refine qy2 (fun _ _ => z_icmp_eq 44 d_X12_heard_29 (by decide)) (fun hc2 => ?_) (fun hc2 => absurd (by decide) hc2)
  refine qy (fun _ _ k9 => z_iload_n d_X12_heard_44 rfl rfl k9) ?_
  refine qy (fun _ _ k9 => z_iconst d_X12_heard_45 (by decide) k9) ?_
  refine qy2 (fun _ _ => z_icmp_ne 62 d_X12_heard_46 (by decide)) (fun hc3 => absurd hc3 (by decide)) (fun hc3 => ?_)
  refine qy (fun _ _ k9 => z_iload_n d_X12_heard_49 rfl rfl k9) ?_
  refine qy (fun _ _ k9 => z_iconst d_X12_heard_50 (by decide) k9) ?_
  refine qy (fun _ _ k9 => z_sipush d_X12_heard_51 (by decide) k9) ?_
  refine qy (fun _ _ k9 => z_cs (M1 := M_X12_in) d_X12_heard_54 ls_X12_137 k_X12_in [qI t, qI 0, qI 200] rfl rfl (Nat.le_of_ble_eq_true rfl) (by decide) (by decide) (Nat.le_of_ble_eq_true rfl) (c_in t 0 200) k9) ?_
  refine qy2 (fun _ _ => z_ifneB 62 d_X12_heard_57 (by decide)) (fun hc4 => ?_) (fun hc4 => absurd hc4 (by omega))
  refine qy (fun _ _ k9 => z_iconst d_X12_heard_62 (by decide) k9) ?_
  refine qy (fun _ _ k9 => z_istore (ls' := [qR m, qI k, qI (-1), qI t, qI (n : Int), qI 0, qU, qU, qU]) d_X12_heard_63 (by decide) rfl k9) ?_
  refine qy (fun _ _ k9 => z_eq (qc rfl (qc rfl (qc rfl (qc rfl (qc rfl (qc (qi (by omega)) (qc rfl (qc rfl (qc rfl rfl))))))))) rfl rfl k9) (y_wh2 (fun (i1 : Nat) (x1 : Nat → Nat → Int) => n - i1) (fun (i1 : Nat) (x1 : Nat → Nat → Int) => [qR m, qI k, qI (-1), qI t, qI (n : Int), qI (i1 : Int), qU, qU, qU]) (fun (i1 : Nat) (x1 : Nat → Nat → Int) => (rput h m f x1)) (fun (i1 : Nat) (x1 : Nat → Nat → Int) => i1 ≤ n ∧ sq g x1 ∧ ∀ j, j < i1 → x1 37 j = (hrR (g 11) n k 0) j) 0 g (⟨by omega, sq_rf, fun j hj => absurd hj (by omega)⟩) (fun i1 x1 hp1 kk1 => ?_))
  obtain ⟨hi1, hs1, hH1⟩ := hp1
  show qEy M_X12_heard 65 [qR m, qI k, qI (-1), qI t, qI (n : Int), qI (i1 : Int), qU, qU, qU] [] (rput h m f x1) Q
  refine qy (fun _ _ k9 => z_iload d_X12_heard_65 rfl k9) ?_
  refine qy (fun _ _ k9 => z_iload d_X12_heard_67 rfl k9) ?_
  refine qy2 (fun _ _ => z_icmp_ge 98 d_X12_heard_69 (by decide)) (fun hc5 => ?_) (fun hc5 => ?_)
  · refine qy (fun _ _ k9 => z_iconst d_X12_heard_98 (by decide) k9) ?_
    refine qy (fun _ _ k9 => z_istore (ls' := [qR m, qI k, qI (-1), qI t, qI (n : Int), qI 0, qU, qU, qU]) d_X12_heard_99 (by decide) rfl k9) ?_
    refine qy (fun _ _ k9 => z_eq (qc rfl (qc rfl (qc rfl (qc rfl (qc rfl (qc (qi (by omega)) (qc rfl (qc rfl (qc rfl rfl))))))))) rfl rfl k9) (y_wh2 (fun (r2 : Nat) (x2 : Nat → Nat → Int) => n - r2) (fun (r2 : Nat) (x2 : Nat → Nat → Int) => [qR m, qI k, qI (-1), qI t, qI (n : Int), qI (r2 : Int), qU, qU, qU]) (fun (r2 : Nat) (x2 : Nat → Nat → Int) => (rput h m f x2)) (fun (r2 : Nat) (x2 : Nat → Nat → Int) => r2 ≤ n ∧ sq g x2 ∧ ∀ j, j < n → x2 37 j = (hrR (g 11) n k r2) j) 0 x1 (⟨by omega, hs1, fun j hj => hH1 j (by omega)⟩) (fun r2 x2 hp2 kk2 => ?_))
    obtain ⟨hr2, hs2, hH2⟩ := hp2
    show qEy M_X12_heard 101 [qR m, qI k, qI (-1), qI t, qI (n : Int), qI (r2 : Int), qU, qU, qU] [] (rput h m f x2) Q
    refine qy (fun _ _ k9 => z_iload d_X12_heard_101 rfl k9) ?_
    refine qy (fun _ _ k9 => z_iload d_X12_heard_103 rfl k9) ?_
    refine qy2 (fun _ _ => z_icmp_ge 214 d_X12_heard_105 (by decide)) (fun hc6 => ?_) (fun hc6 => ?_)
    · refine qy (fun _ _ k9 => z_iload_n d_X12_heard_214 rfl rfl k9) ?_
      refine qy (fun _ _ k9 => z_iconst d_X12_heard_215 (by decide) k9) ?_
      refine qy2 (fun _ _ => z_icmp_eq 242 d_X12_heard_216 (by decide)) (fun hc7 => ?_) (fun hc7 => absurd (by decide) hc7)
      refine qy (fun _ _ k9 => z_iconst d_X12_heard_242 (by decide) k9) ?_
      refine qy (fun _ _ k9 => z_istore (ls' := [qR m, qI k, qI (-1), qI t, qI (n : Int), qI 0, qU, qU, qU]) d_X12_heard_243 (by decide) rfl k9) ?_
      refine qy (fun _ _ k9 => z_iconst d_X12_heard_245 (by decide) k9) ?_
      refine qy (fun _ _ k9 => z_istore (ls' := [qR m, qI k, qI (-1), qI t, qI (n : Int), qI 0, qI 0, qU, qU]) d_X12_heard_246 (by decide) rfl k9) ?_
      refine qy (fun _ _ k9 => z_eq (qc rfl (qc rfl (qc rfl (qc rfl (qc rfl (qc (qi (rfl)) (qc (qi (by omega)) (qc rfl (qc rfl rfl))))))))) rfl rfl k9) (y_wh1 (fun (i5 : Nat) => n - i5) (fun (i5 : Nat) => [qR m, qI k, qI (-1), qI t, qI (n : Int), qI (cnt (fun q9 => (hrR (g 11) n k n) q9 ≤ t) i5), qI (i5 : Int), qU, qU]) (fun (i5 : Nat) => (rput h m f x2)) (fun (i5 : Nat) => i5 ≤ n) 0 (Nat.zero_le n) (fun i5 hi5 kk5 => ?_))
      show qEy M_X12_heard 248 [qR m, qI k, qI (-1), qI t, qI (n : Int), qI (cnt (fun q9 => (hrR (g 11) n k n) q9 ≤ t) i5), qI (i5 : Int), qU, qU] [] (rput h m f x2) Q
      have hc5 := cnt_bd (fun q9 => (hrR (g 11) n k n) q9 ≤ t) i5
      refine qy (fun _ _ k9 => z_iload d_X12_heard_248 rfl k9) ?_
      refine qy (fun _ _ k9 => z_iload d_X12_heard_250 rfl k9) ?_
      refine qy2 (fun _ _ => z_icmp_ge 282 d_X12_heard_252 (by decide)) (fun hc8 => ?_) (fun hc8 => ?_)
      · refine qy (fun _ _ k9 => z_iload d_X12_heard_282 rfl k9) ?_
        exact y_ret (hQ x2 hs2) (z_iret d_X12_heard_284 rfl (qsi (by rw [show i5 = n by omega])) rfl)
      · refine qy (fun _ _ k9 => z_iload d_X12_heard_255 rfl k9) ?_
        refine qy (fun _ _ k9 => z_aload_n d_X12_heard_257 rfl rfl k9) ?_
        refine qy (fun _ _ k9 => z_getf (v := qR (m + 37)) d_X12_heard_258 fl_X12_124 rput_o rfl k9) ?_
        refine qy (fun _ _ k9 => z_iload d_X12_heard_261 rfl k9) ?_
        refine qy (fun _ _ k9 => z_ild i5 d_X12_heard_263 (rput_a2 37 (t := 0) (n := 32) (F := (x2 37)) rfl rfl rfl (by decide) (by decide)) rfl (by omega) k9) ?_
        refine qy (fun _ _ k9 => z_eq rfl (qc (qi (show ((x2 37) i5) = ((hrR (g 11) n k n) i5) from by rw [hH2 i5 (by omega), show r2 = n by omega])) rfl) rfl k9) ?_
        refine qy (fun _ _ k9 => z_iload_n d_X12_heard_264 rfl rfl k9) ?_
        refine qy2 (fun _ _ => z_icmp_gt 272 d_X12_heard_265 (by decide)) (fun hc9 => ?_) (fun hc9 => ?_)
        · refine qy (fun _ _ k9 => z_iconst d_X12_heard_272 (by decide) k9) ?_
          refine qy (fun _ _ k9 => z_iadd d_X12_heard_273 (by omega) k9) ?_
          refine qy (fun _ _ k9 => z_istore (ls' := [qR m, qI k, qI (-1), qI t, qI (n : Int), qI ((cnt (fun q9 => (hrR (g 11) n k n) q9 ≤ t) i5) + 0), qI (i5 : Int), qU, qU]) d_X12_heard_274 (by decide) rfl k9) ?_
          refine qy (fun _ _ k9 => z_iinc (ls' := [qR m, qI k, qI (-1), qI t, qI (n : Int), qI ((cnt (fun q9 => (hrR (g 11) n k n) q9 ≤ t) i5) + 0), qI ((i5 : Int) + 1), qU, qU]) d_X12_heard_276 rfl (by decide) (by omega) rfl k9) ?_
          refine qy (fun _ _ k9 => z_goto 248 d_X12_heard_279 (by decide) k9) ?_
          exact qy (fun _ _ k9 => z_eq (qc rfl (qc rfl (qc rfl (qc rfl (qc rfl (qc (qi (by show _ = cnt _ i5 + qb ((hrR (g 11) n k n) i5 ≤ t); first | rw [qb_t (show (hrR (g 11) n k n) i5 ≤ t by omega)] | rw [qb_f (show ¬ (hrR (g 11) n k n) i5 ≤ t by omega)])) (qc (qi (by omega)) (qc rfl (qc rfl rfl))))))))) rfl rfl k9) (kk5 (i5 + 1) (by omega) (by omega))
        · refine qy (fun _ _ k9 => z_iconst d_X12_heard_268 (by decide) k9) ?_
          refine qy (fun _ _ k9 => z_goto 273 d_X12_heard_269 (by decide) k9) ?_
          refine qy (fun _ _ k9 => z_iadd d_X12_heard_273 (by omega) k9) ?_
          refine qy (fun _ _ k9 => z_istore (ls' := [qR m, qI k, qI (-1), qI t, qI (n : Int), qI ((cnt (fun q9 => (hrR (g 11) n k n) q9 ≤ t) i5) + 1), qI (i5 : Int), qU, qU]) d_X12_heard_274 (by decide) rfl k9) ?_
          refine qy (fun _ _ k9 => z_iinc (ls' := [qR m, qI k, qI (-1), qI t, qI (n : Int), qI ((cnt (fun q9 => (hrR (g 11) n k n) q9 ≤ t) i5) + 1), qI ((i5 : Int) + 1), qU, qU]) d_X12_heard_276 rfl (by decide) (by omega) rfl k9) ?_
          refine qy (fun _ _ k9 => z_goto 248 d_X12_heard_279 (by decide) k9) ?_
          exact qy (fun _ _ k9 => z_eq (qc rfl (qc rfl (qc rfl (qc rfl (qc rfl (qc (qi (by show _ = cnt _ i5 + qb ((hrR (g 11) n k n) i5 ≤ t); first | rw [qb_t (show (hrR (g 11) n k n) i5 ≤ t by omega)] | rw [qb_f (show ¬ (hrR (g 11) n k n) i5 ≤ t by omega)])) (qc (qi (by omega)) (qc rfl (qc rfl rfl))))))))) rfl rfl k9) (kk5 (i5 + 1) (by omega) (by omega))
    · refine qy (fun _ _ k9 => z_iconst d_X12_heard_108 (by decide) k9) ?_
      refine qy (fun _ _ k9 => z_istore (ls' := [qR m, qI k, qI (-1), qI t, qI (n : Int), qI (r2 : Int), qI 0, qU, qU]) d_X12_heard_109 (by decide) rfl k9) ?_
      refine qy (fun _ _ k9 => z_eq (qc rfl (qc rfl (qc rfl (qc rfl (qc rfl (qc rfl (qc (qi (by omega)) (qc rfl (qc rfl rfl))))))))) rfl rfl k9) (y_wh2 (fun (i3 : Nat) (x3 : Nat → Nat → Int) => n - i3) (fun (i3 : Nat) (x3 : Nat → Nat → Int) => [qR m, qI k, qI (-1), qI t, qI (n : Int), qI (r2 : Int), qI (i3 : Int), qU, qU]) (fun (i3 : Nat) (x3 : Nat → Nat → Int) => (rput h m f x3)) (fun (i3 : Nat) (x3 : Nat → Nat → Int) => i3 ≤ n ∧ sq g x3 ∧ ∀ j, j < n → x3 37 j = (hrS (g 11) n (hrR (g 11) n k r2) i3) j) 0 x2 (⟨by omega, hs2, hH2⟩) (fun i3 x3 hp3 kk3 => ?_))
      obtain ⟨hi3, hs3, hH3⟩ := hp3
      show qEy M_X12_heard 111 [qR m, qI k, qI (-1), qI t, qI (n : Int), qI (r2 : Int), qI (i3 : Int), qU, qU] [] (rput h m f x3) Q
      refine qy (fun _ _ k9 => z_iload d_X12_heard_111 rfl k9) ?_
      refine qy (fun _ _ k9 => z_iload d_X12_heard_113 rfl k9) ?_
      refine qy2 (fun _ _ => z_icmp_ge 208 d_X12_heard_115 (by decide)) (fun hc10 => ?_) (fun hc10 => ?_)
      · refine qy (fun _ _ k9 => z_iinc (ls' := [qR m, qI k, qI (-1), qI t, qI (n : Int), qI ((r2 : Int) + 1), qI (i3 : Int), qU, qU]) d_X12_heard_208 rfl (by decide) (by omega) rfl k9) ?_
        refine qy (fun _ _ k9 => z_goto 101 d_X12_heard_211 (by decide) k9) ?_
        exact qy (fun _ _ k9 => z_dr (qle_k rfl (qle_k rfl (qle_k rfl (qle_k rfl (qle_k rfl (qle_k (qi (by omega)) (qle_d (qle_k rfl (qle_k rfl qle_n))))))))) rfl rfl k9) (kk2 (r2 + 1) x3 (⟨by omega, hs3, fun j hj => by rw [hH3 j hj, show i3 = n by omega]; rfl⟩) (by omega))
      · have hi9 : i3 < n := by omega
        refine qy (fun _ _ k9 => z_iconst d_X12_heard_118 (by decide) k9) ?_
        refine qy (fun _ _ k9 => z_istore (ls' := [qR m, qI k, qI (-1), qI t, qI (n : Int), qI (r2 : Int), qI (i3 : Int), qI 0, qU]) d_X12_heard_119 (by decide) rfl k9) ?_
        refine qy (fun _ _ k9 => z_eq (qc rfl (qc rfl (qc rfl (qc rfl (qc rfl (qc rfl (qc rfl (qc (qi (by omega)) (qc rfl rfl))))))))) rfl rfl k9) (y_wh2 (fun (d4 : Nat) (x4 : Nat → Nat → Int) => 2 - d4) (fun (d4 : Nat) (x4 : Nat → Nat → Int) => [qR m, qI k, qI (-1), qI t, qI (n : Int), qI (r2 : Int), qI (i3 : Int), qI (d4 : Int), qU]) (fun (d4 : Nat) (x4 : Nat → Nat → Int) => (rput h m f x4)) (fun (d4 : Nat) (x4 : Nat → Nat → Int) => d4 ≤ 2 ∧ sq g x4 ∧ ∀ j, j < n → x4 37 j = (hrD (g 11) n (hrS (g 11) n (hrR (g 11) n k r2) i3) i3 d4) j) 0 x3 (⟨by omega, hs3, hH3⟩) (fun d4 x4 hp4 kk4 => ?_))
        obtain ⟨hd4, hs4, hH4⟩ := hp4
        show qEy M_X12_heard 121 [qR m, qI k, qI (-1), qI t, qI (n : Int), qI (r2 : Int), qI (i3 : Int), qI (d4 : Int), qU] [] (rput h m f x4) Q
        have hb4 := hrD_bd (show i3 < n from hi9) hn hL (hrS_bd hn hL (hrR_bd (k := k) hn hL r2) i3 (by omega)) d4
        have ht4 := hrT_bd (N := (g 11)) (d := d4) hi9
        have hl4 := hL i3 (by omega)
        refine qy (fun _ _ k9 => z_iload d_X12_heard_121 rfl k9) ?_
        refine qy (fun _ _ k9 => z_iconst d_X12_heard_123 (by decide) k9) ?_
        refine qy2 (fun _ _ => z_icmp_ge 202 d_X12_heard_124 (by decide)) (fun hc11 => ?_) (fun hc11 => ?_)
        · refine qy (fun _ _ k9 => z_iinc (ls' := [qR m, qI k, qI (-1), qI t, qI (n : Int), qI (r2 : Int), qI ((i3 : Int) + 1), qI (d4 : Int), qU]) d_X12_heard_202 rfl (by decide) (by omega) rfl k9) ?_
          refine qy (fun _ _ k9 => z_goto 111 d_X12_heard_205 (by decide) k9) ?_
          exact qy (fun _ _ k9 => z_dr (qle_k rfl (qle_k rfl (qle_k rfl (qle_k rfl (qle_k rfl (qle_k rfl (qle_k (qi (by omega)) (qle_d (qle_k rfl qle_n))))))))) rfl rfl k9) (kk3 (i3 + 1) x4 (⟨by omega, hs4, fun j hj => by rw [hH4 j hj, show d4 = 2 by omega]; rfl⟩) (by omega))
        · refine qy (fun _ _ k9 => z_aload_n d_X12_heard_127 rfl rfl k9) ?_
          refine qy (fun _ _ k9 => z_getf (v := qR (m + 11)) d_X12_heard_128 fl_X12_44 rput_o rfl k9) ?_
          refine qy (fun _ _ k9 => z_iload d_X12_heard_131 rfl k9) ?_
          refine qy (fun _ _ k9 => z_iload d_X12_heard_133 rfl k9) ?_
          refine qy (fun _ _ k9 => z_cs (M1 := M_X12_beside) d_X12_heard_135 ls_X12_292 k_X12_beside [qR (m + 11), qI (i3 : Int), qI (d4 : Int)] rfl rfl (Nat.le_of_ble_eq_true rfl) (by decide) (by decide) (Nat.le_of_ble_eq_true rfl) (c_beside i3 d4 (rput_a2 11 (t := 0) (n := 167) (F := (x4 11)) rfl rfl rfl (by decide) (by decide)) (by rw [hs4 11 (by decide) (by decide)]; exact hN) hn (by omega) (by omega)) k9) ?_
          refine qy (fun _ _ k9 => z_eq rfl (qc (qi (show (hrT (x4 11) n d4 i3) = (hrT (g 11) n d4 i3) from by rw [hs4 11 (by decide) (by decide)])) rfl) rfl k9) ?_
          refine qy (fun _ _ k9 => z_istore (ls' := [qR m, qI k, qI (-1), qI t, qI (n : Int), qI (r2 : Int), qI (i3 : Int), qI (d4 : Int), qI (hrT (g 11) n d4 i3)]) d_X12_heard_138 (by decide) rfl k9) ?_
          refine qy (fun _ _ k9 => z_iload d_X12_heard_140 rfl k9) ?_
          refine qy (fun _ _ k9 => z_iconst d_X12_heard_142 (by decide) k9) ?_
          refine qy2 (fun _ _ => z_icmp_eq 196 d_X12_heard_143 (by decide)) (fun q1 => ?_) (fun q1 => ?_)
          · refine qy (fun _ _ k9 => z_iinc (ls' := [qR m, qI k, qI (-1), qI t, qI (n : Int), qI (r2 : Int), qI (i3 : Int), qI ((d4 : Int) + 1), qI (hrT (g 11) n d4 i3)]) d_X12_heard_196 rfl (by decide) (by omega) rfl k9) ?_
            refine qy (fun _ _ k9 => z_goto 121 d_X12_heard_199 (by decide) k9) ?_
            exact qy (fun _ _ k9 => z_dr (qle_k rfl (qle_k rfl (qle_k rfl (qle_k rfl (qle_k rfl (qle_k rfl (qle_k rfl (qle_k (qi (by omega)) (qle_d qle_n))))))))) rfl rfl k9) (kk4 (d4 + 1) x4 (⟨by omega, hs4, fun j hj => by show _ = hrX (g 11) n (hrD (g 11) n (hrS (g 11) n (hrR (g 11) n k r2) i3) i3 d4) i3 d4 j; rw [hrX_f (fun z9 => by first | exact z9.1 q1 | exact q2 z9.2)]; exact hH4 j hj⟩) (by omega))
          · refine qy (fun _ _ k9 => z_aload_n d_X12_heard_146 rfl rfl k9) ?_
            refine qy (fun _ _ k9 => z_getf (v := qR (m + 11)) d_X12_heard_147 fl_X12_44 rput_o rfl k9) ?_
            refine qy (fun _ _ k9 => z_bipush d_X12_heard_150 (by decide) k9) ?_
            refine qy (fun _ _ k9 => z_iload d_X12_heard_152 rfl k9) ?_
            refine qy (fun _ _ k9 => z_iadd d_X12_heard_154 (by omega) k9) ?_
            refine qy (fun _ _ k9 => z_ild (64 + i3) d_X12_heard_155 (rput_a2 11 (t := 0) (n := 167) (F := (x4 11)) rfl rfl rfl (by decide) (by decide)) rfl (by omega) k9) ?_
            refine qy (fun _ _ k9 => z_eq rfl (qc (qi (show ((x4 11) (64 + i3)) = ((g 11) (64 + i3)) from congrFun (hs4 11 (by decide) (by decide)) _)) rfl) rfl k9) ?_
            refine qy2 (fun _ _ => z_if_ne 196 d_X12_heard_156 (by decide)) (fun q2 => ?_) (fun q2 => ?_)
            · refine qy (fun _ _ k9 => z_iinc (ls' := [qR m, qI k, qI (-1), qI t, qI (n : Int), qI (r2 : Int), qI (i3 : Int), qI ((d4 : Int) + 1), qI (hrT (g 11) n d4 i3)]) d_X12_heard_196 rfl (by decide) (by omega) rfl k9) ?_
              refine qy (fun _ _ k9 => z_goto 121 d_X12_heard_199 (by decide) k9) ?_
              exact qy (fun _ _ k9 => z_dr (qle_k rfl (qle_k rfl (qle_k rfl (qle_k rfl (qle_k rfl (qle_k rfl (qle_k rfl (qle_k (qi (by omega)) (qle_d qle_n))))))))) rfl rfl k9) (kk4 (d4 + 1) x4 (⟨by omega, hs4, fun j hj => by show _ = hrX (g 11) n (hrD (g 11) n (hrS (g 11) n (hrR (g 11) n k r2) i3) i3 d4) i3 d4 j; rw [hrX_f (fun z9 => by first | exact z9.1 q1 | exact q2 z9.2)]; exact hH4 j hj⟩) (by omega))
            · refine qy (fun _ _ k9 => z_aload_n d_X12_heard_159 rfl rfl k9) ?_
              refine qy (fun _ _ k9 => z_getf (v := qR (m + 37)) d_X12_heard_160 fl_X12_124 rput_o rfl k9) ?_
              refine qy (fun _ _ k9 => z_iload d_X12_heard_163 rfl k9) ?_
              refine qy (fun _ _ k9 => z_aload_n d_X12_heard_165 rfl rfl k9) ?_
              refine qy (fun _ _ k9 => z_getf (v := qR (m + 37)) d_X12_heard_166 fl_X12_124 rput_o rfl k9) ?_
              refine qy (fun _ _ k9 => z_iload d_X12_heard_169 rfl k9) ?_
              refine qy (fun _ _ k9 => z_ild i3 d_X12_heard_171 (rput_a2 37 (t := 0) (n := 32) (F := (x4 37)) rfl rfl rfl (by decide) (by decide)) rfl (by omega) k9) ?_
              refine qy (fun _ _ k9 => z_eq rfl (qc (qi (show ((x4 37) i3) = ((hrD (g 11) n (hrS (g 11) n (hrR (g 11) n k r2) i3) i3 d4) i3) from hH4 i3 (by omega))) rfl) rfl k9) ?_
              refine qy (fun _ _ k9 => z_aload_n d_X12_heard_172 rfl rfl k9) ?_
              refine qy (fun _ _ k9 => z_getf (v := qR (m + 37)) d_X12_heard_173 fl_X12_124 rput_o rfl k9) ?_
              refine qy (fun _ _ k9 => z_iload d_X12_heard_176 rfl k9) ?_
              refine qy (fun _ _ k9 => z_ild ((hrT (g 11) n d4 i3).toNat) d_X12_heard_178 (rput_a2 37 (t := 0) (n := 32) (F := (x4 37)) rfl rfl rfl (by decide) (by decide)) (by omega) (by omega) k9) ?_
              have hb5 := hb4 (hrT (g 11) n d4 i3).toNat (by omega)
              have hb6 := hb4 i3 hi9
              refine qy (fun _ _ k9 => z_eq rfl (qc (qi (show ((x4 37) ((hrT (g 11) n d4 i3).toNat)) = ((hrD (g 11) n (hrS (g 11) n (hrR (g 11) n k r2) i3) i3 d4) (hrT (g 11) n d4 i3).toNat) from hH4 _ (by omega))) rfl) rfl k9) ?_
              refine qy (fun _ _ k9 => z_iconst d_X12_heard_179 (by decide) k9) ?_
              refine qy (fun _ _ k9 => z_iadd d_X12_heard_180 (by omega) k9) ?_
              refine qy (fun _ _ k9 => z_aload_n d_X12_heard_181 rfl rfl k9) ?_
              refine qy (fun _ _ k9 => z_getf (v := qR (m + 11)) d_X12_heard_182 fl_X12_44 rput_o rfl k9) ?_
              refine qy (fun _ _ k9 => z_bipush d_X12_heard_185 (by decide) k9) ?_
              refine qy (fun _ _ k9 => z_iload d_X12_heard_187 rfl k9) ?_
              refine qy (fun _ _ k9 => z_iadd d_X12_heard_189 (by omega) k9) ?_
              refine qy (fun _ _ k9 => z_ild (96 + i3) d_X12_heard_190 (rput_a2 11 (t := 0) (n := 167) (F := (x4 11)) rfl rfl rfl (by decide) (by decide)) rfl (by omega) k9) ?_
              refine qy (fun _ _ k9 => z_eq rfl (qc (qi (show ((x4 11) (96 + i3)) = ((g 11) (96 + i3)) from congrFun (hs4 11 (by decide) (by decide)) _)) rfl) rfl k9) ?_
              refine qy (fun _ _ k9 => z_iadd d_X12_heard_191 (by omega) k9) ?_
              refine qy (fun _ _ k9 => z_cs (M1 := M_X12_less) d_X12_heard_192 ls_X12_357 k_X12_less [qI ((hrD (g 11) n (hrS (g 11) n (hrR (g 11) n k r2) i3) i3 d4) i3), qI ((((hrD (g 11) n (hrS (g 11) n (hrR (g 11) n k r2) i3) i3 d4) (hrT (g 11) n d4 i3).toNat) + 1) + ((g 11) (96 + i3)))] rfl rfl (Nat.le_of_ble_eq_true rfl) (by decide) (by decide) (Nat.le_of_ble_eq_true rfl) (c_less ((hrD (g 11) n (hrS (g 11) n (hrR (g 11) n k r2) i3) i3 d4) i3) ((((hrD (g 11) n (hrS (g 11) n (hrR (g 11) n k r2) i3) i3 d4) (hrT (g 11) n d4 i3).toNat) + 1) + ((g 11) (96 + i3)))) k9) ?_
              refine qy (fun _ _ k9 => z_ist i3 d_X12_heard_195 (rput_a2 37 (t := 0) (n := 32) (F := (x4 37)) rfl rfl rfl (by decide) (by decide)) (by omega) rfl (by omega) k9) ?_
              refine qy (fun _ _ k9 => z_eq rfl rfl (rput_sa 37 rfl rfl (by decide) (by decide)) k9) ?_
              refine qy (fun _ _ k9 => z_iinc (ls' := [qR m, qI k, qI (-1), qI t, qI (n : Int), qI (r2 : Int), qI (i3 : Int), qI ((d4 : Int) + 1), qI (hrT (g 11) n d4 i3)]) d_X12_heard_196 rfl (by decide) (by omega) rfl k9) ?_
              refine qy (fun _ _ k9 => z_goto 121 d_X12_heard_199 (by decide) k9) ?_
              exact qy (fun _ _ k9 => z_dr (qle_k rfl (qle_k rfl (qle_k rfl (qle_k rfl (qle_k rfl (qle_k rfl (qle_k rfl (qle_k (qi (by omega)) (qle_d qle_n))))))))) rfl rfl k9) (kk4 (d4 + 1) (gup x4 37 (qup (x4 37) i3 (if ((hrD (g 11) n (hrS (g 11) n (hrR (g 11) n k r2) i3) i3 d4) i3) < ((((hrD (g 11) n (hrS (g 11) n (hrR (g 11) n k r2) i3) i3 d4) (hrT (g 11) n d4 i3).toNat) + 1) + ((g 11) (96 + i3))) then ((hrD (g 11) n (hrS (g 11) n (hrR (g 11) n k r2) i3) i3 d4) i3) else ((((hrD (g 11) n (hrS (g 11) n (hrR (g 11) n k r2) i3) i3 d4) (hrT (g 11) n d4 i3).toNat) + 1) + ((g 11) (96 + i3)))))) (⟨by omega, (sq_up hs4 (by decide)), fun j hj => by show qup (x4 37) i3 _ j = hrX (g 11) n (hrD (g 11) n (hrS (g 11) n (hrR (g 11) n k r2) i3) i3 d4) i3 d4 j; rw [hrX_t q1 (by omega)]; by_cases e : j = i3; (rw [e, qup_eq, qup_eq]); (rw [qup_ne e, qup_ne e]; exact hH4 j hj)⟩) (by omega))
  · refine qy (fun _ _ k9 => z_aload_n d_X12_heard_72 rfl rfl k9) ?_
    refine qy (fun _ _ k9 => z_getf (v := qR (m + 37)) d_X12_heard_73 fl_X12_124 rput_o rfl k9) ?_
    refine qy (fun _ _ k9 => z_iload d_X12_heard_76 rfl k9) ?_
    refine qy (fun _ _ k9 => z_iload d_X12_heard_78 rfl k9) ?_
    refine qy (fun _ _ k9 => z_iload_n d_X12_heard_80 rfl rfl k9) ?_
    suffices kJ81 : qEy M_X12_heard 91 [qR m, qI k, qI (-1), qI t, qI (n : Int), qI (i1 : Int), qU, qU, qU] [qI (qif ((i1 : Int) ≠ k) 999 0), qI (i1 : Int), qR (m + 37)] (rput h m f x1) Q by
      refine qy2 (fun _ _ => z_icmp_ne 88 d_X12_heard_81 (by decide)) (fun hc12 => ?_) (fun hc12 => ?_)
      · refine qy (fun _ _ k9 => z_sipush d_X12_heard_88 (by decide) k9) ?_
        exact qy (fun _ _ k9 => z_eq rfl (qc (qi (qif_t hc12).symm) (qc rfl (qc rfl rfl))) rfl k9) kJ81
      · refine qy (fun _ _ k9 => z_iconst d_X12_heard_84 (by decide) k9) ?_
        refine qy (fun _ _ k9 => z_goto 91 d_X12_heard_85 (by decide) k9) ?_
        exact qy (fun _ _ k9 => z_eq rfl (qc (qi (qif_f hc12).symm) (qc rfl (qc rfl rfl))) rfl k9) kJ81
    refine qy (fun _ _ k9 => z_ist i1 d_X12_heard_91 (rput_a2 37 (t := 0) (n := 32) (F := (x1 37)) rfl rfl rfl (by decide) (by decide)) (by omega) rfl (by omega) k9) ?_
    refine qy (fun _ _ k9 => z_eq rfl rfl (rput_sa 37 rfl rfl (by decide) (by decide)) k9) ?_
    refine qy (fun _ _ k9 => z_iinc (ls' := [qR m, qI k, qI (-1), qI t, qI (n : Int), qI ((i1 : Int) + 1), qU, qU, qU]) d_X12_heard_92 rfl (by decide) (by omega) rfl k9) ?_
    refine qy (fun _ _ k9 => z_goto 65 d_X12_heard_95 (by decide) k9) ?_
    exact qy (fun _ _ k9 => z_eq (qc rfl (qc rfl (qc rfl (qc rfl (qc rfl (qc (qi (by omega)) (qc rfl (qc rfl (qc rfl rfl))))))))) rfl rfl k9) (kk1 (i1 + 1) (gup x1 37 (qup (x1 37) i1 (qif ((i1 : Int) ≠ k) 999 0))) (⟨by omega, (sq_up hs1 (by decide)), fun j hj => if e : j = i1 then (by show qup (x1 37) i1 _ j = _; rw [e, qup_eq]; rfl) else (by show qup (x1 37) i1 _ j = _; rw [qup_ne e]; exact hH1 j (by omega))⟩) (by omega))
set_option maxRecDepth 20000 in
set_option maxHeartbeats 4000000 in
theorem c_heard_no {h : qH} {m : Nat} {f : Nat → Int} {g : Nat → Nat → Int} {n : Nat} (k j t : Int) (hm : 2 ≤ m) (h0 : f 0 = 0) (hN : g 11 160 = (n : Int)) (hn : n ≤ 32) (hno : ¬ ((0 ≤ k ∧ k < n) ∧ ((j = -1 ∧ 0 ≤ t ∧ t ≤ 200) ∨ (0 ≤ j ∧ j < n)))) : qEx M_X12_heard 0 [qR m, qI k, qI j, qI t, qU, qU, qU, qU, qU] [] (rput h m f g) (some (qI (-1))) (rput h m f g) := by
  refine q_gen (fun r hr er eh => ?_)
  refine z_aload_n d_X12_heard_0 rfl rfl ?_
  refine z_iconst d_X12_heard_1 (by decide) ?_
  refine z_putf (fs' := [qI 0, qI (f 1), qI (f 2), qI (f 3), qI (f 4), qI (f 5), qI (f 6), qI (f 7), qR (m + 1), qR (m + 2), qR (m + 3), qR (m + 4), qR (m + 5), qR (m + 6), qR (m + 7), qR (m + 8), qR (m + 9), qR (m + 10), qI (f 18), qI (f 19), qI (f 20), qR (m + 11), qR (m + 12), qR (m + 13), qR (m + 14), qI (f 25), qR (m + 15), qI (f 27), qR (m + 16), qR (m + 17), qR (m + 18), qR (m + 19), qR (m + 20), qR (m + 21), qR (m + 22), qR (m + 23), qR (m + 24), qI (f 37), qI (f 38), qI (f 39), qI (f 40), qR (m + 25), qR (m + 26), qR (m + 27), qR (m + 28), qR (m + 29), qR (m + 30), qR (m + 31), qI (f 48), qR (m + 32), qR (m + 33), qR (m + 34), qR (m + 35), qR (m + 36), qR (m + 37)]) d_X12_heard_2 fp_X12_127 rput_o (fun _ => rfl) (fun _ => rfl) (Nat.le_of_ble_eq_true rfl) rfl ?_
  refine z_eq rfl rfl ((rput_sf (f' := qup f 0 0) rfl).trans (rput_cg (qup_self h0) rfl)) ?_
  refine z_aload_n d_X12_heard_5 rfl rfl ?_
  refine z_getf (v := qR (m + 11)) d_X12_heard_6 fl_X12_44 rput_o rfl ?_
  refine z_sipush d_X12_heard_9 (by decide) ?_
  refine z_ild 160 d_X12_heard_12 (rput_a2 11 (t := 0) (n := 167) (F := (g 11)) rfl rfl rfl (by decide) (by decide)) rfl (by omega) ?_
  refine z_eq rfl (qc (qi hN) rfl) rfl ?_
  refine z_istore (ls' := [qR m, qI k, qI j, qI t, qI (n : Int), qU, qU, qU, qU]) d_X12_heard_13 (by decide) rfl ?_
  refine z_iload_n d_X12_heard_15 rfl rfl ?_
  refine z_iconst d_X12_heard_16 (by decide) ?_
  refine z_iload d_X12_heard_17 rfl ?_
  refine z_iconst d_X12_heard_19 (by decide) ?_
  refine z_isub d_X12_heard_20 (by omega) ?_
  refine z_cs (M1 := M_X12_in) d_X12_heard_21 ls_X12_137 k_X12_in [qI k, qI 0, qI ((n : Int) - 1)] rfl rfl (Nat.le_of_ble_eq_true rfl) (by decide) (by decide) (Nat.le_of_ble_eq_true rfl) (c_in k 0 ((n : Int) - 1)) ?_
  refine z_ifeqB 60 d_X12_heard_24 (by decide) (fun hc1 => ?_) (fun hc1 => ?_)
  · refine z_iconst d_X12_heard_60 (by decide) ?_
    exact z_iret d_X12_heard_61 rfl er eh
  · refine z_iload_n d_X12_heard_27 rfl rfl ?_
    refine z_iconst d_X12_heard_28 (by decide) ?_
    refine z_icmp_eq 44 d_X12_heard_29 (by decide) (fun hc2 => ?_) (fun hc2 => ?_)
    · refine z_iload_n d_X12_heard_44 rfl rfl ?_
      refine z_iconst d_X12_heard_45 (by decide) ?_
      refine z_icmp_ne 62 d_X12_heard_46 (by decide) (fun hc3 => ?_) (fun hc3 => ?_)
      · exact absurd (by omega) hno
      · refine z_iload_n d_X12_heard_49 rfl rfl ?_
        refine z_iconst d_X12_heard_50 (by decide) ?_
        refine z_sipush d_X12_heard_51 (by decide) ?_
        refine z_cs (M1 := M_X12_in) d_X12_heard_54 ls_X12_137 k_X12_in [qI t, qI 0, qI 200] rfl rfl (Nat.le_of_ble_eq_true rfl) (by decide) (by decide) (Nat.le_of_ble_eq_true rfl) (c_in t 0 200) ?_
        refine z_ifneB 62 d_X12_heard_57 (by decide) (fun hc4 => ?_) (fun hc4 => ?_)
        · exact absurd (by omega) hno
        · refine z_iconst d_X12_heard_60 (by decide) ?_
          exact z_iret d_X12_heard_61 rfl er eh
    · refine z_iload_n d_X12_heard_32 rfl rfl ?_
      refine z_iconst d_X12_heard_33 (by decide) ?_
      refine z_iload d_X12_heard_34 rfl ?_
      refine z_iconst d_X12_heard_36 (by decide) ?_
      refine z_isub d_X12_heard_37 (by omega) ?_
      refine z_cs (M1 := M_X12_in) d_X12_heard_38 ls_X12_137 k_X12_in [qI j, qI 0, qI ((n : Int) - 1)] rfl rfl (Nat.le_of_ble_eq_true rfl) (by decide) (by decide) (Nat.le_of_ble_eq_true rfl) (c_in j 0 ((n : Int) - 1)) ?_
      refine z_ifeqB 60 d_X12_heard_41 (by decide) (fun hc5 => ?_) (fun hc5 => ?_)
      · refine z_iconst d_X12_heard_60 (by decide) ?_
        exact z_iret d_X12_heard_61 rfl er eh
      · refine z_iload_n d_X12_heard_44 rfl rfl ?_
        refine z_iconst d_X12_heard_45 (by decide) ?_
        refine z_icmp_ne 62 d_X12_heard_46 (by decide) (fun hc6 => ?_) (fun hc6 => ?_)
        · exact absurd (by omega) hno
        · refine z_iload_n d_X12_heard_49 rfl rfl ?_
          refine z_iconst d_X12_heard_50 (by decide) ?_
          refine z_sipush d_X12_heard_51 (by decide) ?_
          refine z_cs (M1 := M_X12_in) d_X12_heard_54 ls_X12_137 k_X12_in [qI t, qI 0, qI 200] rfl rfl (Nat.le_of_ble_eq_true rfl) (by decide) (by decide) (Nat.le_of_ble_eq_true rfl) (c_in t 0 200) ?_
          refine z_ifneB 62 d_X12_heard_57 (by decide) (fun hc7 => ?_) (fun hc7 => ?_)
          · exact absurd (by omega) hno
          · refine z_iconst d_X12_heard_60 (by decide) ?_
            exact z_iret d_X12_heard_61 rfl er eh
