/-! ===== CONTRACTS: the reference: crowd ===== -/
/-- how many have MIND md behind t breaths; the most, and when, in the first t; who ever had it -/
noncomputable def crC (T : Nat → Int) (n : Nat) (b md : Int) (t : Nat) : Int := cnt (fun k => ps T n 0 (-1) b t k = md) n
noncomputable def crM (T : Nat → Int) (n : Nat) (b md : Int) : Nat → Int
  | 0 => -1
  | t + 1 => if crC T n b md t > crM T n b md t then crC T n b md t else crM T n b md t
noncomputable def crW (T : Nat → Int) (n : Nat) (b md : Int) : Nat → Int
  | 0 => 0
  | t + 1 => qif (crC T n b md t ≤ crM T n b md t) (crW T n b md t) (t : Int)
def crE (T : Nat → Int) (n : Nat) (b md : Int) (t k : Nat) : Prop := ∃ s, s < t ∧ ps T n 0 (-1) b s k = md
theorem crE_s {T : Nat → Int} {n : Nat} {b md : Int} {t k : Nat} : crE T n b md (t + 1) k ↔ ps T n 0 (-1) b t k = md ∨ crE T n b md t k := by
  constructor
  · rintro ⟨s, hs, e⟩
    rcases Nat.lt_or_ge s t with q | q
    · exact Or.inr ⟨s, q, e⟩
    · exact Or.inl ((show s = t by omega) ▸ e)
  · rintro (e | ⟨s, hs, e⟩)
    · exact ⟨t, by omega, e⟩
    · exact ⟨s, by omega, e⟩
theorem crE_q {T : Nat → Int} {n : Nat} {b md : Int} {t k : Nat} : qif (ps T n 0 (-1) b t k ≠ md) (qb (crE T n b md t k)) 1 = qb (crE T n b md (t + 1) k) := by
  by_cases h : ps T n 0 (-1) b t k = md
  · rw [qif_f (fun z => z h), qb_t (crE_s.mpr (Or.inl h))]
  · rw [qif_t h]
    exact qb_congr ⟨fun q => crE_s.mpr (Or.inr q), fun q => (crE_s.mp q).elim (fun z => absurd z h) id⟩
theorem rnJ_le {T : Nat → Int} {n rg : Nat} {b : Int} : rnJ T n rg b ≤ 3 * n + 20 := by
  unfold rnJ utl
  rcases fst_cases (fun t : Nat => t ≥ 3 * n + 20 ∨ litAt T n rg (-1) b t) (3 * n + 20 + 1) with ⟨e, -⟩ | ⟨i, hi, e, -⟩
  · rw [e]; exact Nat.zero_le _
  · rw [e, Int.toNat_natCast]; omega
theorem rnJ_at {T : Nat → Int} {n rg i : Nat} {b : Int} (hi : i ≤ 3 * n + 20) (hp : ∀ k, k < i → ¬ litAt T n rg (-1) b k) (h : i = 3 * n + 20 ∨ litAt T n rg (-1) b i) : rnJ T n rg b = i := by
  unfold rnJ
  exact utl_at hi (fun k hk z => z.elim (fun q => by omega) (hp k hk)) (h.elim (fun q => Or.inl (by omega)) Or.inr)
set_option maxRecDepth 20000 in
set_option maxHeartbeats 4000000 in
theorem c_crowd {h : qH} {m : Nat} {f : Nat → Int} {g : Nat → Nat → Int} {n : Nat} (b md what : Int) (hm : 2 ≤ m) (h0 : f 0 = 0) (hn : 1 ≤ n ∧ n ≤ 32) (hb : 0 ≤ b ∧ b < n) (hmd : 0 ≤ md ∧ md ≤ 7) (hw : 0 ≤ what ∧ what ≤ 2) (hO : bkOk (g 2) (g 5)) : ∃ g', (sq g g') ∧ qEx M_X12_crowd 0 [qR m, qI (n : Int), qI b, qI md, qI what, qU, qU, qU, qU, qU, qU] [] (rput h m f g) (some (qI (qif (what ≠ 0) (qif (what ≠ 1) (cnt (fun k => crE (ownT g) n b md (rnJ (ownT g) n 0 b + 1) k) n) (crW (ownT g) n b md (rnJ (ownT g) n 0 b + 1))) (crM (ownT g) n b md (rnJ (ownT g) n 0 b + 1))))) (rput h m f g') := by
  refine y_in (fun Q hQ => ?_)
  have hOB := ownT_bd hO
  refine qy (fun _ _ k9 => z_aload_n d_X12_crowd_0 rfl rfl k9) ?_
  refine qy (fun _ _ k9 => z_iconst d_X12_crowd_1 (by decide) k9) ?_
  refine qy (fun _ _ k9 => z_putf (fs' := [qI 0, qI (f 1), qI (f 2), qI (f 3), qI (f 4), qI (f 5), qI (f 6), qI (f 7), qR (m + 1), qR (m + 2), qR (m + 3), qR (m + 4), qR (m + 5), qR (m + 6), qR (m + 7), qR (m + 8), qR (m + 9), qR (m + 10), qI (f 18), qI (f 19), qI (f 20), qR (m + 11), qR (m + 12), qR (m + 13), qR (m + 14), qI (f 25), qR (m + 15), qI (f 27), qR (m + 16), qR (m + 17), qR (m + 18), qR (m + 19), qR (m + 20), qR (m + 21), qR (m + 22), qR (m + 23), qR (m + 24), qI (f 37), qI (f 38), qI (f 39), qI (f 40), qR (m + 25), qR (m + 26), qR (m + 27), qR (m + 28), qR (m + 29), qR (m + 30), qR (m + 31), qI (f 48), qR (m + 32), qR (m + 33), qR (m + 34), qR (m + 35), qR (m + 36), qR (m + 37)]) d_X12_crowd_2 fp_X12_127 rput_o (fun _ => rfl) (fun _ => rfl) (Nat.le_of_ble_eq_true rfl) rfl k9) ?_
  refine qy (fun _ _ k9 => z_eq rfl rfl ((rput_sf (f' := qup f 0 0) rfl).trans (rput_cg (qup_self h0) rfl)) k9) ?_
  refine qy (fun _ _ k9 => z_iload_n d_X12_crowd_5 rfl rfl k9) ?_
  refine qy (fun _ _ k9 => z_iload_n d_X12_crowd_6 rfl rfl k9) ?_
  refine qy (fun _ _ k9 => z_cs (M1 := M_X12_isRun) d_X12_crowd_7 ls_X12_347 k_X12_isRun [qI (n : Int), qI b] rfl rfl (Nat.le_of_ble_eq_true rfl) (by decide) (by decide) (Nat.le_of_ble_eq_true rfl) (c_isRun2 (n : Int) b (by omega)) k9) ?_
  refine qy2n (fun _ _ => z_ifeqB 33 d_X12_crowd_10 (by decide)) (fun hc1 => absurd hc1 (by omega)) (fun hc1 => ?_)
  refine qy (fun _ _ k9 => z_iload_n d_X12_crowd_13 rfl rfl k9) ?_
  refine qy (fun _ _ k9 => z_iconst d_X12_crowd_14 (by decide) k9) ?_
  refine qy (fun _ _ k9 => z_bipush d_X12_crowd_15 (by decide) k9) ?_
  refine qy (fun _ _ k9 => z_cs (M1 := M_X12_in) d_X12_crowd_17 ls_X12_137 k_X12_in [qI md, qI 0, qI 7] rfl rfl (Nat.le_of_ble_eq_true rfl) (by decide) (by decide) (Nat.le_of_ble_eq_true rfl) (c_in md 0 7) k9) ?_
  refine qy2n (fun _ _ => z_ifeqB 33 d_X12_crowd_20 (by decide)) (fun hc2 => absurd hc2 (by omega)) (fun hc2 => ?_)
  refine qy (fun _ _ k9 => z_iload d_X12_crowd_23 rfl k9) ?_
  refine qy (fun _ _ k9 => z_iconst d_X12_crowd_25 (by decide) k9) ?_
  refine qy (fun _ _ k9 => z_iconst d_X12_crowd_26 (by decide) k9) ?_
  refine qy (fun _ _ k9 => z_cs (M1 := M_X12_in) d_X12_crowd_27 ls_X12_137 k_X12_in [qI what, qI 0, qI 2] rfl rfl (Nat.le_of_ble_eq_true rfl) (by decide) (by decide) (Nat.le_of_ble_eq_true rfl) (c_in what 0 2) k9) ?_
  refine qy2 (fun _ _ => z_ifneB 35 d_X12_crowd_30 (by decide)) (fun hc3 => ?_) (fun hc3 => absurd hc3 (by omega))
  refine qy (fun _ _ k9 => z_aload_n d_X12_crowd_35 rfl rfl k9) ?_
  obtain ⟨y1, ⟨hlf, hlT, hlF⟩, hx1⟩ := y_laysOwn hm
  refine qy (fun _ _ k9 => z_cv0 (M1 := M_X12_laysOwn) d_X12_crowd_36 lv_X12_275 k_X12_laysOwn [] rfl rfl rput_o ⟨_, _, rfl⟩ (Nat.le_of_ble_eq_true rfl) (by decide) (by decide) (Nat.le_of_ble_eq_true rfl) hx1 k9) ?_
  refine qy (fun _ _ k9 => z_aload_n d_X12_crowd_39 rfl rfl k9) ?_
  refine qy (fun _ _ k9 => z_getf (v := qR (m + 28)) d_X12_crowd_40 fl_X12_95 rput_o rfl k9) ?_
  refine qy (fun _ _ k9 => z_iload_n d_X12_crowd_43 rfl rfl k9) ?_
  refine qy (fun _ _ k9 => z_iload_n d_X12_crowd_44 rfl rfl k9) ?_
  refine qy (fun _ _ k9 => z_cs0 (M1 := M_X12_begins) d_X12_crowd_45 ls_X12_329 k_X12_begins [qR (m + 28), qI (n : Int), qI b] rfl rfl (Nat.le_of_ble_eq_true rfl) (by decide) (by decide) (Nat.le_of_ble_eq_true rfl) (c_begins n b (rput_a2 28 (t := 0) (n := 32) (F := (y1 28)) rfl rfl rfl (by decide) (by decide)) (by omega) (by omega) (by decide)) k9) ?_
  refine qy (fun _ _ k9 => z_eq rfl rfl (rput_sa 28 rfl rfl (by decide) (by decide)) k9) ?_
  refine qy (fun _ _ k9 => z_iconst d_X12_crowd_48 (by decide) k9) ?_
  refine qy (fun _ _ k9 => z_istore (ls' := [qR m, qI (n : Int), qI b, qI md, qI what, qI 0, qU, qU, qU, qU, qU]) d_X12_crowd_49 (by decide) rfl k9) ?_
  refine qy (fun _ _ k9 => z_eq (qc rfl (qc rfl (qc rfl (qc rfl (qc rfl (qc (qi (by omega)) (qc rfl (qc rfl (qc rfl (qc rfl (qc rfl rfl))))))))))) rfl rfl k9) (y_wh2 (fun (i : Nat) (x : Nat → Nat → Int) => n - i) (fun (i : Nat) (x : Nat → Nat → Int) => [qR m, qI (n : Int), qI b, qI md, qI what, qI (i : Int), qU, qU, qU, qU, qU]) (fun (i : Nat) (x : Nat → Nat → Int) => (rput h m f x)) (fun (i : Nat) (x : Nat → Nat → Int) => i ≤ n ∧ sq g x ∧ (∀ c, c < 648 → x 25 c = (ownT g) c) ∧ (∀ k, k < n → x 28 k = (ps (ownT g) n 0 (-1) b 0) k) ∧ ∀ k, k < i → x 30 k = 0) 0 (gup y1 28 (qmx n (fun q9 => qb ((q9 : Int) = b)) (y1 28))) (⟨by omega, (sq_up (sq_tr sq_rf (sq_fr hlf (by decide))) (by decide)), hlT, fun k hk => (show qmx n (fun q9 : Nat => qb ((q9 : Int) = b)) (y1 28) k = _ from qmx_lt hk), fun k hk => absurd hk (by omega)⟩) (fun i x hp kk => ?_))
  obtain ⟨hi, hs, hT, hF, hZ⟩ := hp
  show qEy M_X12_crowd 51 [qR m, qI (n : Int), qI b, qI md, qI what, qI (i : Int), qU, qU, qU, qU, qU] [] (rput h m f x) Q
  refine qy (fun _ _ k9 => z_iload d_X12_crowd_51 rfl k9) ?_
  refine qy (fun _ _ k9 => z_iload_n d_X12_crowd_53 rfl rfl k9) ?_
  refine qy2 (fun _ _ => z_icmp_ge 71 d_X12_crowd_54 (by decide)) (fun hc4 => ?_) (fun hc4 => ?_)
  · refine qy (fun _ _ k9 => z_iconst d_X12_crowd_71 (by decide) k9) ?_
    refine qy (fun _ _ k9 => z_istore (ls' := [qR m, qI (n : Int), qI b, qI md, qI what, qI (-1), qU, qU, qU, qU, qU]) d_X12_crowd_72 (by decide) rfl k9) ?_
    refine qy (fun _ _ k9 => z_iconst d_X12_crowd_74 (by decide) k9) ?_
    refine qy (fun _ _ k9 => z_istore (ls' := [qR m, qI (n : Int), qI b, qI md, qI what, qI (-1), qI 0, qU, qU, qU, qU]) d_X12_crowd_75 (by decide) rfl k9) ?_
    refine qy (fun _ _ k9 => z_iconst d_X12_crowd_77 (by decide) k9) ?_
    refine qy (fun _ _ k9 => z_istore (ls' := [qR m, qI (n : Int), qI b, qI md, qI what, qI (-1), qI 0, qI 0, qU, qU, qU]) d_X12_crowd_78 (by decide) rfl k9) ?_
    refine qy (fun _ _ k9 => z_iconst d_X12_crowd_80 (by decide) k9) ?_
    refine qy (fun _ _ k9 => z_istore (ls' := [qR m, qI (n : Int), qI b, qI md, qI what, qI (-1), qI 0, qI 0, qI 0, qU, qU]) d_X12_crowd_81 (by decide) rfl k9) ?_
    have KP : ∀ (x : Nat → Nat → Int), sq g x ∧ (∀ k, k < n → x 30 k = qb (crE (ownT g) n b md (rnJ (ownT g) n 0 b + 1) k)) → qEy M_X12_crowd 220 [qR m, qI (n : Int), qI b, qI md, qI what, qI (crM (ownT g) n b md (rnJ (ownT g) n 0 b + 1)), qI (crW (ownT g) n b md (rnJ (ownT g) n 0 b + 1)), qI 0, qU, qU, qU] [] (rput h m f x) Q := by
      intro x hp
      obtain ⟨hs, hE⟩ := hp
      refine qy (fun _ _ k9 => z_iconst d_X12_crowd_220 (by decide) k9) ?_
      refine qy (fun _ _ k9 => z_istore (ls' := [qR m, qI (n : Int), qI b, qI md, qI what, qI (crM (ownT g) n b md (rnJ (ownT g) n 0 b + 1)), qI (crW (ownT g) n b md (rnJ (ownT g) n 0 b + 1)), qI 0, qI 0, qU, qU]) d_X12_crowd_221 (by decide) rfl k9) ?_
      refine qy (fun _ _ k9 => z_eq (qc rfl (qc rfl (qc rfl (qc rfl (qc rfl (qc rfl (qc rfl (qc (qi (rfl)) (qc (qi (by omega)) (qc rfl (qc rfl rfl))))))))))) rfl rfl k9) (y_wh1 (fun (i : Nat) => n - i) (fun (i : Nat) => [qR m, qI (n : Int), qI b, qI md, qI what, qI (crM (ownT g) n b md (rnJ (ownT g) n 0 b + 1)), qI (crW (ownT g) n b md (rnJ (ownT g) n 0 b + 1)), qI (cnt (fun k => crE (ownT g) n b md (rnJ (ownT g) n 0 b + 1) k) i), qI (i : Int), qU, qU]) (fun (i : Nat) => (rput h m f x)) (fun (i : Nat) => i ≤ n) 0 (Nat.zero_le n) (fun i hp kk => ?_))
      show qEy M_X12_crowd 223 [qR m, qI (n : Int), qI b, qI md, qI what, qI (crM (ownT g) n b md (rnJ (ownT g) n 0 b + 1)), qI (crW (ownT g) n b md (rnJ (ownT g) n 0 b + 1)), qI (cnt (fun k => crE (ownT g) n b md (rnJ (ownT g) n 0 b + 1) k) i), qI (i : Int), qU, qU] [] (rput h m f x) Q
      have hcb := cnt_bd (fun k => crE (ownT g) n b md (rnJ (ownT g) n 0 b + 1) k) i
      refine qy (fun _ _ k9 => z_iload d_X12_crowd_223 rfl k9) ?_
      refine qy (fun _ _ k9 => z_iload_n d_X12_crowd_225 rfl rfl k9) ?_
      refine qy2 (fun _ _ => z_icmp_ge 247 d_X12_crowd_226 (by decide)) (fun hc5 => ?_) (fun hc5 => ?_)
      · refine qy (fun _ _ k9 => z_iload d_X12_crowd_247 rfl k9) ?_
        suffices kJ249 : qEy M_X12_crowd 270 [qR m, qI (n : Int), qI b, qI md, qI what, qI (crM (ownT g) n b md (rnJ (ownT g) n 0 b + 1)), qI (crW (ownT g) n b md (rnJ (ownT g) n 0 b + 1)), qI (cnt (fun k => crE (ownT g) n b md (rnJ (ownT g) n 0 b + 1) k) i), qI (i : Int), qU, qU] [qI (qif (what ≠ 0) (qif (what ≠ 1) (cnt (fun k => crE (ownT g) n b md (rnJ (ownT g) n 0 b + 1) k) i) (crW (ownT g) n b md (rnJ (ownT g) n 0 b + 1))) (crM (ownT g) n b md (rnJ (ownT g) n 0 b + 1)))] (rput h m f x) Q by
          refine qy2 (fun _ _ => z_if_ne 257 d_X12_crowd_249 (by decide)) (fun hc6 => ?_) (fun hc6 => ?_)
          · refine qy (fun _ _ k9 => z_iload d_X12_crowd_257 rfl k9) ?_
            refine qy (fun _ _ k9 => z_iconst d_X12_crowd_259 (by decide) k9) ?_
            suffices kJ260 : qEy M_X12_crowd 270 [qR m, qI (n : Int), qI b, qI md, qI what, qI (crM (ownT g) n b md (rnJ (ownT g) n 0 b + 1)), qI (crW (ownT g) n b md (rnJ (ownT g) n 0 b + 1)), qI (cnt (fun k => crE (ownT g) n b md (rnJ (ownT g) n 0 b + 1) k) i), qI (i : Int), qU, qU] [qI (qif (what ≠ 1) (cnt (fun k => crE (ownT g) n b md (rnJ (ownT g) n 0 b + 1) k) i) (crW (ownT g) n b md (rnJ (ownT g) n 0 b + 1)))] (rput h m f x) Q by
              refine qy2 (fun _ _ => z_icmp_ne 268 d_X12_crowd_260 (by decide)) (fun hc7 => ?_) (fun hc7 => ?_)
              · refine qy (fun _ _ k9 => z_iload d_X12_crowd_268 rfl k9) ?_
                exact qy (fun _ _ k9 => z_eq rfl (qc (qi (qif_t hc7).symm) rfl) rfl k9) kJ260
              · refine qy (fun _ _ k9 => z_iload d_X12_crowd_263 rfl k9) ?_
                refine qy (fun _ _ k9 => z_goto 270 d_X12_crowd_265 (by decide) k9) ?_
                exact qy (fun _ _ k9 => z_eq rfl (qc (qi (qif_f hc7).symm) rfl) rfl k9) kJ260
            exact qy (fun _ _ k9 => z_eq rfl (qc (qi (qif_t hc6).symm) rfl) rfl k9) kJ249
          · refine qy (fun _ _ k9 => z_iload d_X12_crowd_252 rfl k9) ?_
            refine qy (fun _ _ k9 => z_goto 270 d_X12_crowd_254 (by decide) k9) ?_
            exact qy (fun _ _ k9 => z_eq rfl (qc (qi (qif_f hc6).symm) rfl) rfl k9) kJ249
        exact y_ret (hQ x hs) (z_iret d_X12_crowd_270 rfl (qsi (by rw [show i = n by omega])) rfl)
      · refine qy (fun _ _ k9 => z_iload d_X12_crowd_229 rfl k9) ?_
        refine qy (fun _ _ k9 => z_aload_n d_X12_crowd_231 rfl rfl k9) ?_
        refine qy (fun _ _ k9 => z_getf (v := qR (m + 30)) d_X12_crowd_232 fl_X12_101 rput_o rfl k9) ?_
        refine qy (fun _ _ k9 => z_iload d_X12_crowd_235 rfl k9) ?_
        refine qy (fun _ _ k9 => z_ild i d_X12_crowd_237 (rput_a2 30 (t := 0) (n := 32) (F := (x 30)) rfl rfl rfl (by decide) (by decide)) rfl (by omega) k9) ?_
        refine qy (fun _ _ k9 => z_eq rfl (qc (qi (show ((x 30) i) = (qb (crE (ownT g) n b md (rnJ (ownT g) n 0 b + 1) i)) from hE i (by omega))) rfl) rfl k9) ?_
        have hqb := qb_bd (crE (ownT g) n b md (rnJ (ownT g) n 0 b + 1) i)
        refine qy (fun _ _ k9 => z_iadd d_X12_crowd_238 (by omega) k9) ?_
        refine qy (fun _ _ k9 => z_istore (ls' := [qR m, qI (n : Int), qI b, qI md, qI what, qI (crM (ownT g) n b md (rnJ (ownT g) n 0 b + 1)), qI (crW (ownT g) n b md (rnJ (ownT g) n 0 b + 1)), qI ((cnt (fun k => crE (ownT g) n b md (rnJ (ownT g) n 0 b + 1) k) i) + (qb (crE (ownT g) n b md (rnJ (ownT g) n 0 b + 1) i))), qI (i : Int), qU, qU]) d_X12_crowd_239 (by decide) rfl k9) ?_
        refine qy (fun _ _ k9 => z_iinc (ls' := [qR m, qI (n : Int), qI b, qI md, qI what, qI (crM (ownT g) n b md (rnJ (ownT g) n 0 b + 1)), qI (crW (ownT g) n b md (rnJ (ownT g) n 0 b + 1)), qI ((cnt (fun k => crE (ownT g) n b md (rnJ (ownT g) n 0 b + 1) k) i) + (qb (crE (ownT g) n b md (rnJ (ownT g) n 0 b + 1) i))), qI ((i : Int) + 1), qU, qU]) d_X12_crowd_241 rfl (by decide) (by omega) rfl k9) ?_
        refine qy (fun _ _ k9 => z_goto 223 d_X12_crowd_244 (by decide) k9) ?_
        exact qy (fun _ _ k9 => z_eq (qc rfl (qc rfl (qc rfl (qc rfl (qc rfl (qc rfl (qc rfl (qc (qi (rfl)) (qc (qi (by omega)) (qc rfl (qc rfl rfl))))))))))) rfl rfl k9) (kk (i + 1) (by omega) (by omega))
    refine qy (fun _ _ k9 => z_eq (qc rfl (qc rfl (qc rfl (qc rfl (qc rfl (qc (qi (rfl)) (qc (qi (rfl)) (qc rfl (qc (qi (by omega)) (qc rfl (qc rfl rfl))))))))))) rfl rfl k9) (y_wh2 (fun (i : Nat) (x : Nat → Nat → Int) => 3 * n + 21 - i) (fun (i : Nat) (x : Nat → Nat → Int) => [qR m, qI (n : Int), qI b, qI md, qI what, qI (crM (ownT g) n b md i), qI (crW (ownT g) n b md i), qI 0, qI (i : Int), qU, qU]) (fun (i : Nat) (x : Nat → Nat → Int) => (rput h m f x)) (fun (i : Nat) (x : Nat → Nat → Int) => i ≤ 3 * n + 21 ∧ sq g x ∧ (∀ c, c < 648 → x 25 c = (ownT g) c) ∧ (∀ k, k < n → x 28 k = (ps (ownT g) n 0 (-1) b i) k) ∧ (∀ k, k < n → x 30 k = qb (crE (ownT g) n b md i k)) ∧ ∀ k, k < i → ¬ litAt (ownT g) n 0 (-1) b k) 0 x (⟨by omega, hs, hT, hF, fun k hk => by rw [hZ k (by omega), qb_f (fun z => by obtain ⟨s9, hs9, -⟩ := z; omega)], fun k hk => absurd hk (by omega)⟩) (fun i x hp kk => ?_))
    obtain ⟨hi, hs, hT, hF, hE, hL⟩ := hp
    show qEy M_X12_crowd 83 [qR m, qI (n : Int), qI b, qI md, qI what, qI (crM (ownT g) n b md i), qI (crW (ownT g) n b md i), qI 0, qI (i : Int), qU, qU] [] (rput h m f x) Q
    refine qy (fun _ _ k9 => z_iload d_X12_crowd_83 rfl k9) ?_
    refine qy (fun _ _ k9 => z_iload_n d_X12_crowd_85 rfl rfl k9) ?_
    refine qy (fun _ _ k9 => z_cs (M1 := M_X12_longest) d_X12_crowd_86 ls_X12_333 k_X12_longest [qI (n : Int)] rfl rfl (Nat.le_of_ble_eq_true rfl) (by decide) (by decide) (Nat.le_of_ble_eq_true rfl) (c_longest (n : Int) (by omega)) k9) ?_
    refine qy2 (fun _ _ => z_icmp_gt 220 d_X12_crowd_89 (by decide)) (fun hc8 => ?_) (fun hc8 => ?_)
    · have hJ9 : (rnJ (ownT g) n 0 b + 1) = i := by rw [rnJ_at (i := 3 * n + 20) (by omega) (fun k hk => hL k (by omega)) (Or.inl rfl)]; omega
      exact qy (fun _ _ k9 => z_dr (qle_k rfl (qle_k rfl (qle_k rfl (qle_k rfl (qle_k rfl (qle_k (qi (by first | (rw [hJ9]; rfl) | rw [hJ9])) (qle_k (qi (by first | (rw [hJ9]; rfl) | rw [hJ9])) (qle_k rfl (qle_d (qle_k rfl (qle_k rfl qle_n))))))))))) rfl rfl k9) (KP x (⟨hs, by rw [hJ9]; exact hE⟩))
    · refine qy (fun _ _ k9 => z_iconst d_X12_crowd_92 (by decide) k9) ?_
      refine qy (fun _ _ k9 => z_istore (ls' := [qR m, qI (n : Int), qI b, qI md, qI what, qI (crM (ownT g) n b md i), qI (crW (ownT g) n b md i), qI 0, qI (i : Int), qI 0, qU]) d_X12_crowd_93 (by decide) rfl k9) ?_
      refine qy (fun _ _ k9 => z_iconst d_X12_crowd_95 (by decide) k9) ?_
      refine qy (fun _ _ k9 => z_istore (ls' := [qR m, qI (n : Int), qI b, qI md, qI what, qI (crM (ownT g) n b md i), qI (crW (ownT g) n b md i), qI 0, qI (i : Int), qI 0, qI 0]) d_X12_crowd_96 (by decide) rfl k9) ?_
      refine qy (fun _ _ k9 => z_eq (qc rfl (qc rfl (qc rfl (qc rfl (qc rfl (qc rfl (qc rfl (qc rfl (qc rfl (qc (qi (rfl)) (qc (qi (by omega)) rfl))))))))))) rfl rfl k9) (y_wh2 (fun (j : Nat) (z : Nat → Nat → Int) => n - j) (fun (j : Nat) (z : Nat → Nat → Int) => [qR m, qI (n : Int), qI b, qI md, qI what, qI (crM (ownT g) n b md i), qI (crW (ownT g) n b md i), qI 0, qI (i : Int), qI (cnt (fun k => (ps (ownT g) n 0 (-1) b i) k = md) j), qI (j : Int)]) (fun (j : Nat) (z : Nat → Nat → Int) => (rput h m f z)) (fun (j : Nat) (z : Nat → Nat → Int) => j ≤ n ∧ sq g z ∧ (∀ c, c < 648 → z 25 c = (ownT g) c) ∧ (∀ k, k < n → z 28 k = (ps (ownT g) n 0 (-1) b i) k) ∧ ∀ k, k < n → z 30 k = qb (crE (ownT g) n b md (if k < j then i + 1 else i) k)) 0 x (⟨by omega, hs, hT, hF, fun k hk => by rw [if_neg (by omega)]; exact hE k hk⟩) (fun j z hpj kkj => ?_))
      obtain ⟨hj, hs2, hT2, hF2, hE3⟩ := hpj
      show qEy M_X12_crowd 98 [qR m, qI (n : Int), qI b, qI md, qI what, qI (crM (ownT g) n b md i), qI (crW (ownT g) n b md i), qI 0, qI (i : Int), qI (cnt (fun k => (ps (ownT g) n 0 (-1) b i) k = md) j), qI (j : Int)] [] (rput h m f z) Q
      have hcb := cnt_bd (fun k => (ps (ownT g) n 0 (-1) b i) k = md) j
      have hqb := qb_bd ((ps (ownT g) n 0 (-1) b i) j = md)
      refine qy (fun _ _ k9 => z_iload d_X12_crowd_98 rfl k9) ?_
      refine qy (fun _ _ k9 => z_iload_n d_X12_crowd_100 rfl rfl k9) ?_
      refine qy2 (fun _ _ => z_icmp_ge 160 d_X12_crowd_101 (by decide)) (fun hc9 => ?_) (fun hc9 => ?_)
      · have hjn : j = n := by omega
        have hE2 : ∀ k, k < n → z 30 k = qb (crE (ownT g) n b md (i + 1) k) := fun k hk => by rw [hE3 k hk, if_pos (by omega)]
        have hcb2 := cnt_bd (fun k => (ps (ownT g) n 0 (-1) b i) k = md) n
        refine qy (fun _ _ k9 => z_eq (qc rfl (qc rfl (qc rfl (qc rfl (qc rfl (qc rfl (qc rfl (qc rfl (qc rfl (qc (qi (show (cnt (fun k => (ps (ownT g) n 0 (-1) b i) k = md) j) = (crC (ownT g) n b md i) from by rw [show j = n by omega]; rfl)) rfl)))))))))) rfl rfl k9) ?_
        refine qy (fun _ _ k9 => z_iload d_X12_crowd_160 rfl k9) ?_
        refine qy (fun _ _ k9 => z_iload d_X12_crowd_162 rfl k9) ?_
        suffices kJ164 : qEy M_X12_crowd 174 [qR m, qI (n : Int), qI b, qI md, qI what, qI (crM (ownT g) n b md i), qI (crW (ownT g) n b md i), qI 0, qI (i : Int), qI (crC (ownT g) n b md i), qI (j : Int)] [qI (qif ((crC (ownT g) n b md i) ≤ (crM (ownT g) n b md i)) (crW (ownT g) n b md i) (i : Int))] (rput h m f z) Q by
          refine qy2 (fun _ _ => z_icmp_le 172 d_X12_crowd_164 (by decide)) (fun hc10 => ?_) (fun hc10 => ?_)
          · refine qy (fun _ _ k9 => z_iload d_X12_crowd_172 rfl k9) ?_
            exact qy (fun _ _ k9 => z_eq rfl (qc (qi (qif_t hc10).symm) rfl) rfl k9) kJ164
          · refine qy (fun _ _ k9 => z_iload d_X12_crowd_167 rfl k9) ?_
            refine qy (fun _ _ k9 => z_goto 174 d_X12_crowd_169 (by decide) k9) ?_
            exact qy (fun _ _ k9 => z_eq rfl (qc (qi (qif_f hc10).symm) rfl) rfl k9) kJ164
        refine qy (fun _ _ k9 => z_istore (ls' := [qR m, qI (n : Int), qI b, qI md, qI what, qI (crM (ownT g) n b md i), qI (qif ((crC (ownT g) n b md i) ≤ (crM (ownT g) n b md i)) (crW (ownT g) n b md i) (i : Int)), qI 0, qI (i : Int), qI (crC (ownT g) n b md i), qI (j : Int)]) d_X12_crowd_174 (by decide) rfl k9) ?_
        refine qy (fun _ _ k9 => z_iload d_X12_crowd_176 rfl k9) ?_
        refine qy (fun _ _ k9 => z_iload d_X12_crowd_178 rfl k9) ?_
        refine qy (fun _ _ k9 => z_cs (M1 := M_X12_more2) d_X12_crowd_180 ls_X12_372 k_X12_more2 [qI (crC (ownT g) n b md i), qI (crM (ownT g) n b md i)] rfl rfl (Nat.le_of_ble_eq_true rfl) (by decide) (by decide) (Nat.le_of_ble_eq_true rfl) (c_more2 (crC (ownT g) n b md i) (crM (ownT g) n b md i)) k9) ?_
        refine qy (fun _ _ k9 => z_istore (ls' := [qR m, qI (n : Int), qI b, qI md, qI what, qI (if (crC (ownT g) n b md i) > (crM (ownT g) n b md i) then (crC (ownT g) n b md i) else (crM (ownT g) n b md i)), qI (qif ((crC (ownT g) n b md i) ≤ (crM (ownT g) n b md i)) (crW (ownT g) n b md i) (i : Int)), qI 0, qI (i : Int), qI (crC (ownT g) n b md i), qI (j : Int)]) d_X12_crowd_183 (by decide) rfl k9) ?_
        refine qy (fun _ _ k9 => z_aload_n d_X12_crowd_185 rfl rfl k9) ?_
        refine qy (fun _ _ k9 => z_getf (v := qR (m + 28)) d_X12_crowd_186 fl_X12_95 rput_o rfl k9) ?_
        refine qy (fun _ _ k9 => z_iload_n d_X12_crowd_189 rfl rfl k9) ?_
        refine qy (fun _ _ k9 => z_cs (M1 := M_X12_litIn) d_X12_crowd_190 ls_X12_302 k_X12_litIn [qR (m + 28), qI (n : Int)] rfl rfl (Nat.le_of_ble_eq_true rfl) (by decide) (by decide) (Nat.le_of_ble_eq_true rfl) (c_litIn n (rput_a2 28 (t := 0) (n := 32) (F := (z 28)) rfl rfl rfl (by decide) (by decide)) (by omega) (by decide)) k9) ?_
        refine qy (fun _ _ k9 => z_eq rfl (qc (qi (show (cnt (fun q9 => (z 28) q9 = 7) n) = (cnt (fun k => (ps (ownT g) n 0 (-1) b i) k = 7) n) from cnt_congr (fun k hk => by rw [hF2 k hk]))) rfl) rfl k9) ?_
        refine qy2 (fun _ _ => z_if_le 199 d_X12_crowd_193 (by decide)) (fun hc11 => ?_) (fun hc11 => ?_)
        · refine qy (fun _ _ k9 => z_aload_n d_X12_crowd_199 rfl rfl k9) ?_
          refine qy (fun _ _ k9 => z_aload_n d_X12_crowd_200 rfl rfl k9) ?_
          refine qy (fun _ _ k9 => z_getf (v := qR (m + 28)) d_X12_crowd_201 fl_X12_95 rput_o rfl k9) ?_
          refine qy (fun _ _ k9 => z_iload_n d_X12_crowd_204 rfl rfl k9) ?_
          refine qy (fun _ _ k9 => z_iconst d_X12_crowd_205 (by decide) k9) ?_
          refine qy (fun _ _ k9 => z_iconst d_X12_crowd_206 (by decide) k9) ?_
          refine qy (fun _ _ k9 => z_aload_n d_X12_crowd_207 rfl rfl k9) ?_
          refine qy (fun _ _ k9 => z_getf (v := qR (m + 25)) d_X12_crowd_208 fl_X12_86 rput_o rfl k9) ?_
          obtain ⟨y2, ⟨hsf2, hsF2⟩, hx2⟩ := y_steps28 (f := f) (h := h) (n := n) (-1) (ownT g) (ps (ownT g) n 0 (-1) b i) hm (by omega) hT2 hF2 (ps_bd hOB i)
          refine qy (fun _ _ k9 => z_cv0 (M1 := M_X12_steps) d_X12_crowd_211 lv_X12_336 k_X12_steps [qR (m + 28), qI (n : Int), qI 0, qI (-1), qR (m + 25)] rfl rfl rput_o ⟨_, _, rfl⟩ (Nat.le_of_ble_eq_true rfl) (by decide) (by decide) (Nat.le_of_ble_eq_true rfl) hx2 k9) ?_
          refine qy (fun _ _ k9 => z_iinc (ls' := [qR m, qI (n : Int), qI b, qI md, qI what, qI (if (crC (ownT g) n b md i) > (crM (ownT g) n b md i) then (crC (ownT g) n b md i) else (crM (ownT g) n b md i)), qI (qif ((crC (ownT g) n b md i) ≤ (crM (ownT g) n b md i)) (crW (ownT g) n b md i) (i : Int)), qI 0, qI ((i : Int) + 1), qI (crC (ownT g) n b md i), qI (j : Int)]) d_X12_crowd_214 rfl (by decide) (by omega) rfl k9) ?_
          refine qy (fun _ _ k9 => z_goto 83 d_X12_crowd_217 (by decide) k9) ?_
          exact qy (fun _ _ k9 => z_dr (qle_k rfl (qle_k rfl (qle_k rfl (qle_k rfl (qle_k rfl (qle_k (qi (rfl)) (qle_k (qi (rfl)) (qle_k rfl (qle_k (qi (by omega)) (qle_d (qle_d qle_n))))))))))) rfl rfl k9) (kk (i + 1) y2 (⟨by omega, (sq_tr hs2 (sq_fr hsf2 (by decide))), fr_at hsf2 25 (by decide) hT2, hsF2, fr_at hsf2 30 (by decide) hE2, q_lts hL (fun z => by unfold litAt at z; omega)⟩) (by omega))
        · refine qy (fun _ _ k9 => z_goto 220 d_X12_crowd_196 (by decide) k9) ?_
          have hJ9 : (rnJ (ownT g) n 0 b + 1) = i + 1 := by rw [rnJ_at (i := i) (by omega) hL (Or.inr (show _ > (0 : Int) by omega))]
          exact qy (fun _ _ k9 => z_dr (qle_k rfl (qle_k rfl (qle_k rfl (qle_k rfl (qle_k rfl (qle_k (qi (by first | (rw [hJ9]; rfl) | rw [hJ9])) (qle_k (qi (by first | (rw [hJ9]; rfl) | rw [hJ9])) (qle_k rfl (qle_d (qle_d (qle_d qle_n))))))))))) rfl rfl k9) (KP z (⟨hs2, by rw [hJ9]; exact hE2⟩))
      · refine qy (fun _ _ k9 => z_iload d_X12_crowd_104 rfl k9) ?_
        refine qy (fun _ _ k9 => z_aload_n d_X12_crowd_106 rfl rfl k9) ?_
        refine qy (fun _ _ k9 => z_getf (v := qR (m + 28)) d_X12_crowd_107 fl_X12_95 rput_o rfl k9) ?_
        refine qy (fun _ _ k9 => z_iload d_X12_crowd_110 rfl k9) ?_
        refine qy (fun _ _ k9 => z_ild j d_X12_crowd_112 (rput_a2 28 (t := 0) (n := 32) (F := (z 28)) rfl rfl rfl (by decide) (by decide)) rfl (by omega) k9) ?_
        refine qy (fun _ _ k9 => z_eq rfl (qc (qi (show ((z 28) j) = ((ps (ownT g) n 0 (-1) b i) j) from hF2 j (by omega))) rfl) rfl k9) ?_
        refine qy (fun _ _ k9 => z_iload_n d_X12_crowd_113 rfl rfl k9) ?_
        suffices kJ114 : qEy M_X12_crowd 122 [qR m, qI (n : Int), qI b, qI md, qI what, qI (crM (ownT g) n b md i), qI (crW (ownT g) n b md i), qI 0, qI (i : Int), qI (cnt (fun k => (ps (ownT g) n 0 (-1) b i) k = md) j), qI (j : Int)] [qI (qb (((ps (ownT g) n 0 (-1) b i) j) = md)), qI (cnt (fun k => (ps (ownT g) n 0 (-1) b i) k = md) j)] (rput h m f z) Q by
          refine qy2 (fun _ _ => z_icmp_ne 121 d_X12_crowd_114 (by decide)) (fun hc12 => ?_) (fun hc12 => ?_)
          · refine qy (fun _ _ k9 => z_iconst d_X12_crowd_121 (by decide) k9) ?_
            exact qy (fun _ _ k9 => z_eq rfl (qc (qi (qb_f (by omega)).symm) (qc rfl rfl)) rfl k9) kJ114
          · refine qy (fun _ _ k9 => z_iconst d_X12_crowd_117 (by decide) k9) ?_
            refine qy (fun _ _ k9 => z_goto 122 d_X12_crowd_118 (by decide) k9) ?_
            exact qy (fun _ _ k9 => z_eq rfl (qc (qi (qb_t (by omega)).symm) (qc rfl rfl)) rfl k9) kJ114
        refine qy (fun _ _ k9 => z_iadd d_X12_crowd_122 (by omega) k9) ?_
        refine qy (fun _ _ k9 => z_istore (ls' := [qR m, qI (n : Int), qI b, qI md, qI what, qI (crM (ownT g) n b md i), qI (crW (ownT g) n b md i), qI 0, qI (i : Int), qI ((cnt (fun k => (ps (ownT g) n 0 (-1) b i) k = md) j) + (qb (((ps (ownT g) n 0 (-1) b i) j) = md))), qI (j : Int)]) d_X12_crowd_123 (by decide) rfl k9) ?_
        refine qy (fun _ _ k9 => z_aload_n d_X12_crowd_125 rfl rfl k9) ?_
        refine qy (fun _ _ k9 => z_getf (v := qR (m + 30)) d_X12_crowd_126 fl_X12_101 rput_o rfl k9) ?_
        refine qy (fun _ _ k9 => z_iload d_X12_crowd_129 rfl k9) ?_
        refine qy (fun _ _ k9 => z_aload_n d_X12_crowd_131 rfl rfl k9) ?_
        refine qy (fun _ _ k9 => z_getf (v := qR (m + 28)) d_X12_crowd_132 fl_X12_95 rput_o rfl k9) ?_
        refine qy (fun _ _ k9 => z_iload d_X12_crowd_135 rfl k9) ?_
        refine qy (fun _ _ k9 => z_ild j d_X12_crowd_137 (rput_a2 28 (t := 0) (n := 32) (F := (z 28)) rfl rfl rfl (by decide) (by decide)) rfl (by omega) k9) ?_
        refine qy (fun _ _ k9 => z_eq rfl (qc (qi (show ((z 28) j) = ((ps (ownT g) n 0 (-1) b i) j) from hF2 j (by omega))) rfl) rfl k9) ?_
        refine qy (fun _ _ k9 => z_iload_n d_X12_crowd_138 rfl rfl k9) ?_
        suffices kJ139 : qEy M_X12_crowd 153 [qR m, qI (n : Int), qI b, qI md, qI what, qI (crM (ownT g) n b md i), qI (crW (ownT g) n b md i), qI 0, qI (i : Int), qI ((cnt (fun k => (ps (ownT g) n 0 (-1) b i) k = md) j) + (qb (((ps (ownT g) n 0 (-1) b i) j) = md))), qI (j : Int)] [qI (qif (((ps (ownT g) n 0 (-1) b i) j) ≠ md) ((z 30) j) 1), qI (j : Int), qR (m + 30)] (rput h m f z) Q by
          refine qy2 (fun _ _ => z_icmp_ne 146 d_X12_crowd_139 (by decide)) (fun hc13 => ?_) (fun hc13 => ?_)
          · refine qy (fun _ _ k9 => z_aload_n d_X12_crowd_146 rfl rfl k9) ?_
            refine qy (fun _ _ k9 => z_getf (v := qR (m + 30)) d_X12_crowd_147 fl_X12_101 rput_o rfl k9) ?_
            refine qy (fun _ _ k9 => z_iload d_X12_crowd_150 rfl k9) ?_
            refine qy (fun _ _ k9 => z_ild j d_X12_crowd_152 (rput_a2 30 (t := 0) (n := 32) (F := (z 30)) rfl rfl rfl (by decide) (by decide)) rfl (by omega) k9) ?_
            exact qy (fun _ _ k9 => z_eq rfl (qc (qi (qif_t hc13).symm) (qc rfl (qc rfl rfl))) rfl k9) kJ139
          · refine qy (fun _ _ k9 => z_iconst d_X12_crowd_142 (by decide) k9) ?_
            refine qy (fun _ _ k9 => z_goto 153 d_X12_crowd_143 (by decide) k9) ?_
            exact qy (fun _ _ k9 => z_eq rfl (qc (qi (qif_f hc13).symm) (qc rfl (qc rfl rfl))) rfl k9) kJ139
        refine qy (fun _ _ k9 => z_ist j d_X12_crowd_153 (rput_a2 30 (t := 0) (n := 32) (F := (z 30)) rfl rfl rfl (by decide) (by decide)) (by omega) rfl (by omega) k9) ?_
        refine qy (fun _ _ k9 => z_eq rfl rfl (rput_sa 30 rfl rfl (by decide) (by decide)) k9) ?_
        refine qy (fun _ _ k9 => z_iinc (ls' := [qR m, qI (n : Int), qI b, qI md, qI what, qI (crM (ownT g) n b md i), qI (crW (ownT g) n b md i), qI 0, qI (i : Int), qI ((cnt (fun k => (ps (ownT g) n 0 (-1) b i) k = md) j) + (qb (((ps (ownT g) n 0 (-1) b i) j) = md))), qI ((j : Int) + 1)]) d_X12_crowd_154 rfl (by decide) (by omega) rfl k9) ?_
        refine qy (fun _ _ k9 => z_goto 98 d_X12_crowd_157 (by decide) k9) ?_
        exact qy (fun _ _ k9 => z_eq (qc rfl (qc rfl (qc rfl (qc rfl (qc rfl (qc rfl (qc rfl (qc rfl (qc rfl (qc (qi (rfl)) (qc (qi (by omega)) rfl))))))))))) rfl rfl k9) (kkj (j + 1) (gup z 30 (qup (z 30) j (qif (((ps (ownT g) n 0 (-1) b i) j) ≠ md) ((z 30) j) 1))) (⟨by omega, (sq_up hs2 (by decide)), hT2, hF2, fun k hk => if e : k = j then (by show qup (z 30) j _ k = _; rw [e, qup_eq, if_pos (by omega), hE3 j (by omega), if_neg (by omega)]; exact crE_q) else (by show qup (z 30) j _ k = _; rw [qup_ne e, hE3 k hk]; exact congrArg (fun w9 => qb (crE (ownT g) n b md w9 k)) (by split <;> split <;> omega))⟩) (by omega))
  · refine qy (fun _ _ k9 => z_aload_n d_X12_crowd_57 rfl rfl k9) ?_
    refine qy (fun _ _ k9 => z_getf (v := qR (m + 30)) d_X12_crowd_58 fl_X12_101 rput_o rfl k9) ?_
    refine qy (fun _ _ k9 => z_iload d_X12_crowd_61 rfl k9) ?_
    refine qy (fun _ _ k9 => z_iconst d_X12_crowd_63 (by decide) k9) ?_
    refine qy (fun _ _ k9 => z_ist i d_X12_crowd_64 (rput_a2 30 (t := 0) (n := 32) (F := (x 30)) rfl rfl rfl (by decide) (by decide)) (by omega) rfl (by omega) k9) ?_
    refine qy (fun _ _ k9 => z_eq rfl rfl (rput_sa 30 rfl rfl (by decide) (by decide)) k9) ?_
    refine qy (fun _ _ k9 => z_iinc (ls' := [qR m, qI (n : Int), qI b, qI md, qI what, qI ((i : Int) + 1), qU, qU, qU, qU, qU]) d_X12_crowd_65 rfl (by decide) (by omega) rfl k9) ?_
    refine qy (fun _ _ k9 => z_goto 51 d_X12_crowd_68 (by decide) k9) ?_
    exact qy (fun _ _ k9 => z_eq (qc rfl (qc rfl (qc rfl (qc rfl (qc rfl (qc (qi (by omega)) (qc rfl (qc rfl (qc rfl (qc rfl (qc rfl rfl))))))))))) rfl rfl k9) (kk (i + 1) (gup x 30 (qup (x 30) i 0)) (⟨by omega, (sq_up hs (by decide)), hT, hF, fun k hk => if e : k = i then (by show qup (x 30) i 0 k = 0; rw [e, qup_eq]) else (by show qup (x 30) i 0 k = 0; rw [qup_ne e]; exact hZ k (by omega))⟩) (by omega))
set_option maxRecDepth 20000 in
set_option maxHeartbeats 4000000 in
theorem c_crowd_no {h : qH} {m : Nat} {f : Nat → Int} {g : Nat → Nat → Int} (n b md what : Int) (hm : 2 ≤ m) (h0 : f 0 = 0) (hnR : R32 n) (hno : ¬ (((1 ≤ n ∧ n ≤ 32) ∧ 0 ≤ b ∧ b < n) ∧ (0 ≤ md ∧ md ≤ 7) ∧ 0 ≤ what ∧ what ≤ 2)) : qEx M_X12_crowd 0 [qR m, qI n, qI b, qI md, qI what, qU, qU, qU, qU, qU, qU] [] (rput h m f g) (some (qI (-1))) (rput h m f g) := by
  refine q_gen (fun r hr er eh => ?_)
  refine z_aload_n d_X12_crowd_0 rfl rfl ?_
  refine z_iconst d_X12_crowd_1 (by decide) ?_
  refine z_putf (fs' := [qI 0, qI (f 1), qI (f 2), qI (f 3), qI (f 4), qI (f 5), qI (f 6), qI (f 7), qR (m + 1), qR (m + 2), qR (m + 3), qR (m + 4), qR (m + 5), qR (m + 6), qR (m + 7), qR (m + 8), qR (m + 9), qR (m + 10), qI (f 18), qI (f 19), qI (f 20), qR (m + 11), qR (m + 12), qR (m + 13), qR (m + 14), qI (f 25), qR (m + 15), qI (f 27), qR (m + 16), qR (m + 17), qR (m + 18), qR (m + 19), qR (m + 20), qR (m + 21), qR (m + 22), qR (m + 23), qR (m + 24), qI (f 37), qI (f 38), qI (f 39), qI (f 40), qR (m + 25), qR (m + 26), qR (m + 27), qR (m + 28), qR (m + 29), qR (m + 30), qR (m + 31), qI (f 48), qR (m + 32), qR (m + 33), qR (m + 34), qR (m + 35), qR (m + 36), qR (m + 37)]) d_X12_crowd_2 fp_X12_127 rput_o (fun _ => rfl) (fun _ => rfl) (Nat.le_of_ble_eq_true rfl) rfl ?_
  refine z_eq rfl rfl ((rput_sf (f' := qup f 0 0) rfl).trans (rput_cg (qup_self h0) rfl)) ?_
  refine z_iload_n d_X12_crowd_5 rfl rfl ?_
  refine z_iload_n d_X12_crowd_6 rfl rfl ?_
  refine z_cs (M1 := M_X12_isRun) d_X12_crowd_7 ls_X12_347 k_X12_isRun [qI n, qI b] rfl rfl (Nat.le_of_ble_eq_true rfl) (by decide) (by decide) (Nat.le_of_ble_eq_true rfl) (c_isRun2 n b (by omega)) ?_
  refine z_ifeqB 33 d_X12_crowd_10 (by decide) (fun hc1 => ?_) (fun hc1 => ?_)
  · refine z_iconst d_X12_crowd_33 (by decide) ?_
    exact z_iret d_X12_crowd_34 rfl er eh
  · refine z_iload_n d_X12_crowd_13 rfl rfl ?_
    refine z_iconst d_X12_crowd_14 (by decide) ?_
    refine z_bipush d_X12_crowd_15 (by decide) ?_
    refine z_cs (M1 := M_X12_in) d_X12_crowd_17 ls_X12_137 k_X12_in [qI md, qI 0, qI 7] rfl rfl (Nat.le_of_ble_eq_true rfl) (by decide) (by decide) (Nat.le_of_ble_eq_true rfl) (c_in md 0 7) ?_
    refine z_ifeqB 33 d_X12_crowd_20 (by decide) (fun hc2 => ?_) (fun hc2 => ?_)
    · refine z_iconst d_X12_crowd_33 (by decide) ?_
      exact z_iret d_X12_crowd_34 rfl er eh
    · refine z_iload d_X12_crowd_23 rfl ?_
      refine z_iconst d_X12_crowd_25 (by decide) ?_
      refine z_iconst d_X12_crowd_26 (by decide) ?_
      refine z_cs (M1 := M_X12_in) d_X12_crowd_27 ls_X12_137 k_X12_in [qI what, qI 0, qI 2] rfl rfl (Nat.le_of_ble_eq_true rfl) (by decide) (by decide) (Nat.le_of_ble_eq_true rfl) (c_in what 0 2) ?_
      refine z_ifneB 35 d_X12_crowd_30 (by decide) (fun hc3 => ?_) (fun hc3 => ?_)
      · exact absurd (by omega) hno
      · refine z_iconst d_X12_crowd_33 (by decide) ?_
        exact z_iret d_X12_crowd_34 rfl er eh
