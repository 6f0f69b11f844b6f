/-! ===== the law's loop ===== -/
theorem bst_of {x : Int} (h : R32 x) : ∃ S : Nat → Prop, x = bst S := ⟨fun k => tb x k = true, bst_eq h (fun _ _ => Iff.rfl)⟩
theorem st_more (to what : Int) {h : qH} {F G : Nat → Nat → Int} {f : Nat → Int} {g : Nat → Nat → Int} (hq : R32 (F 172 4)) (hR : Rel F G f g) : StA M_X11_more M_X12_more [qI to, qI what] [qI to, qI what, qU, qU, qU, qU, qU, qU, qU] h F G f g := by
  obtain ⟨S0, h4⟩ := bst_of hq
  by_cases c : (1 ≤ to ∧ to ≤ 8) ∧ 0 ≤ what ∧ what ≤ 1
  · obtain ⟨to, rfl⟩ := i_nat (show 0 ≤ to by omega)
    have ht : 1 ≤ to ∧ to ≤ 8 := ⟨by omega, by omega⟩
    have hT7 : ∀ c, 567 ≤ c → c < 648 → ownT g c = 7 := fun c h1 h2 => (bk_hi h1 h2).2
    obtain rfl | rfl : what = 0 ∨ what = 1 := by omega
    · exact sa_e hR (sc_t hR) (fun h => xc_more0 ht (rl_T hR) (rl_B hR) hT7 hR.2.2.2.2.2.1 h4) (fun h => by
        have := c_more (h := h) (m := 220) (f := f) (g := g) (to := to) 0 (by decide) hR.1 ht (by decide) (rl_O hR)
        rw [w2_0] at this
        exact this)
    · exact sa_e hR (sc_t hR) (fun h => xc_more1 ht (rl_T hR) (rl_B hR) hT7 hR.2.2.2.2.2.1 h4) (fun h => by
        have := c_more (h := h) (m := 220) (f := f) (g := g) (to := to) 1 (by decide) hR.1 ht (by decide) (rl_O hR)
        rw [w2_1] at this
        exact this)
  · exact sa_n hR (fun h => xc_more_no to what c) (fun h => c_more_no to what (by decide) hR.1 c)
/-- what stands in the cells is in range, or there is nothing to show -/
theorem y_rc {M : qM} {pc : Nat} {ls st : List qA} {h : qH} {Q : Option qA → qH → Prop} (hQ : ∃ r, Q r h) (k : (∀ a, qRc (h.2.2 a)) → qEy M pc ls st h Q) : qEy M pc ls st h Q := by
  by_cases z : ∀ a, qRc (h.2.2 a)
  · exact k z
  · obtain ⟨r, hr⟩ := hQ
    refine ⟨r, h, hr, ?_⟩
    unfold qEx
    exact ⟨Nat.le_refl _, Nat.le_refl _, fun G p l e s m args below meth c H locs cells slots mc ms lsA C hH hS hRl hRs hc hs hL => absurd hH.1.2.2.2.1 z⟩
theorem xs_1 {h : qH} {F G : Nat → Nat → Int} {f : Nat → Int} {g : Nat → Nat → Int} {n : Nat} {S : Nat → Int} (he : h.2.2 1 = qAr 0 n S) : (xput (rput h 220 f g) F G).2.2 1 = qAr 0 n S := by
  rw [xput_out (fun z => by have := z.1; omega)]
  rw [show (rput h 220 f g).2.2 1 = h.2.2 1 by simp [rput]]
  exact he
theorem xr_1 {h : qH} {F G : Nat → Nat → Int} {f : Nat → Int} {g : Nat → Nat → Int} {n : Nat} {S : Nat → Int} (he : h.2.2 1 = qAr 0 n S) : (rput (xput h F G) 220 f g).2.2 1 = qAr 0 n S := by rw [← xput_rput]; exact xs_1 he
theorem and63 (x : Int) : 0 ≤ qAnd x 63 ∧ qAnd x 63 ≤ 63 := by
  have h0 : 0 ≤ qAnd x 63 := nn_of_tb (qAnd_R _ _) (by rw [tb_and]; rw [show tb 63 31 = false by decide +kernel, Bool.and_false])
  refine ⟨h0, ?_⟩
  have hR := qAnd_R x 63
  have : (qAnd x 63).toNat < 2 ^ 6 := Nat.lt_pow_two_of_testBit _ (fun i hi => by
    by_cases z : i < 32
    · rw [← tb_nat h0 i z, tb_and, tb_nat (x := 63) (by decide) i z]
      rw [show ((63 : Int).toNat).testBit i = false from Nat.testBit_lt_two_pow (Nat.lt_of_lt_of_le (by decide : (63 : Int).toNat < 2 ^ 6) (Nat.pow_le_pow_right (by decide) hi)), Bool.and_false]
    · exact Nat.testBit_lt_two_pow (Nat.lt_of_lt_of_le (show (qAnd x 63).toNat < 2 ^ 32 by have := hR.2; omega) (Nat.pow_le_pow_right (by decide) (by omega))))
  omega
set_option maxRecDepth 20000 in
theorem lw_0 {n i : Nat} {S : Nat → Int} {h : qH} {F G : Nat → Nat → Int} {f : Nat → Int} {g : Nat → Nat → Int} {Q : Option qA → qH → Prop} (he : h.2.2 1 = qAr 0 n S) (hn : n ≤ 1000000) (hi : i + 6 ≤ n) (hS : ∀ j, R32 (S j)) (hq : R32 (F 172 4)) (hR : Rel F G f g) (kk : ∀ F' G' f' g', Rel F' G' f' g' → qEy M_L_law 1751 [qR 1, qR 2, qR 220, qI (i : Int)] [] (xput (rput h 220 f' g') F' G') Q) : qEy M_L_law 220 [qR 1, qR 2, qR 220, qI (i : Int)] [] (xput (rput h 220 f g) F G) Q := by
  by_cases hz : S (i + 2) = 0
  · obtain ⟨v, F', G', f', g', hR', k1, k2⟩ := st_wall (S (i + 1)) False h F G f g hR
    rw [qb_f id] at k1 k2
    refine qy (fun _ _ k9 => z_aload_n d_L_law_220 rfl rfl k9) ?_
    refine qy (fun _ _ k9 => z_aload_n d_L_law_221 rfl rfl k9) ?_
    refine qy (fun _ _ k9 => z_iload_n d_L_law_222 rfl rfl k9) ?_
    refine qy (fun _ _ k9 => z_iconst d_L_law_223 (by decide) k9) ?_
    refine qy (fun _ _ k9 => z_iadd d_L_law_224 (by omega) k9) ?_
    refine qy (fun _ _ k9 => z_ild (i + 1) d_L_law_225 (xs_1 he) (by omega) (by omega) k9) ?_
    refine qy (fun _ _ k9 => z_aload_n d_L_law_226 rfl rfl k9) ?_
    refine qy (fun _ _ k9 => z_iload_n d_L_law_227 rfl rfl k9) ?_
    refine qy (fun _ _ k9 => z_iconst d_L_law_228 (by decide) k9) ?_
    refine qy (fun _ _ k9 => z_iadd d_L_law_229 (by omega) k9) ?_
    refine qy (fun _ _ k9 => z_ild (i + 2) d_L_law_230 (xs_1 he) (by omega) (by omega) k9) ?_
    refine qy2 (fun _ _ => z_if_eq 238 d_L_law_231 (by decide)) (fun _ => ?_) (fun q => absurd hz q)
    refine qy (fun _ _ k9 => z_iconst d_L_law_238 (by decide) k9) ?_
    refine qy (fun _ _ k9 => z_cv (M1 := M_X11_wall) d_L_law_239 lv_L_13 k_X11_wall [qI (S (i + 1)), qI 0] rfl rfl (xput_ob (c := F 2) xi_2 rfl (xsh_11 xo_2)) ⟨_, _, rfl⟩ (Nat.le_of_ble_eq_true rfl) (by decide) (by decide) (Nat.le_of_ble_eq_true rfl) k1 k9) ?_
    refine qy (fun _ _ k9 => z_eq rfl rfl xput_rput k9) ?_
    refine qy (fun _ _ k9 => z_aload_n d_L_law_242 rfl rfl k9) ?_
    refine qy (fun _ _ k9 => z_aload_n d_L_law_243 rfl rfl k9) ?_
    refine qy (fun _ _ k9 => z_iload_n d_L_law_244 rfl rfl k9) ?_
    refine qy (fun _ _ k9 => z_iconst d_L_law_245 (by decide) k9) ?_
    refine qy (fun _ _ k9 => z_iadd d_L_law_246 (by omega) k9) ?_
    refine qy (fun _ _ k9 => z_ild (i + 1) d_L_law_247 (xr_1 he) (by omega) (by omega) k9) ?_
    refine qy (fun _ _ k9 => z_aload_n d_L_law_248 rfl rfl k9) ?_
    refine qy (fun _ _ k9 => z_iload_n d_L_law_249 rfl rfl k9) ?_
    refine qy (fun _ _ k9 => z_iconst d_L_law_250 (by decide) k9) ?_
    refine qy (fun _ _ k9 => z_iadd d_L_law_251 (by omega) k9) ?_
    refine qy (fun _ _ k9 => z_ild (i + 2) d_L_law_252 (xr_1 he) (by omega) (by omega) k9) ?_
    refine qy2 (fun _ _ => z_if_eq 260 d_L_law_253 (by decide)) (fun _ => ?_) (fun q => absurd hz q)
    refine qy (fun _ _ k9 => z_iconst d_L_law_260 (by decide) k9) ?_
    refine qy (fun _ _ k9 => z_cv (M1 := M_X12_wall) d_L_law_261 lv_L_17 k_X12_wall [qI (S (i + 1)), qI 0] rfl rfl rput_o ⟨_, _, rfl⟩ (Nat.le_of_ble_eq_true rfl) (by decide) (by decide) (Nat.le_of_ble_eq_true rfl) k2 k9) ?_
    refine qy (fun _ _ k9 => z_eq rfl rfl xput_rput.symm k9) ?_
    refine qy2 (fun _ _ => z_icmp_eq 1751 d_L_law_264 (by decide)) (fun _ => kk F' G' f' g' hR') (fun q => absurd rfl q)
  · obtain ⟨v, F', G', f', g', hR', k1, k2⟩ := st_wall (S (i + 1)) True h F G f g hR
    rw [qb_t trivial] at k1 k2
    refine qy (fun _ _ k9 => z_aload_n d_L_law_220 rfl rfl k9) ?_
    refine qy (fun _ _ k9 => z_aload_n d_L_law_221 rfl rfl k9) ?_
    refine qy (fun _ _ k9 => z_iload_n d_L_law_222 rfl rfl k9) ?_
    refine qy (fun _ _ k9 => z_iconst d_L_law_223 (by decide) k9) ?_
    refine qy (fun _ _ k9 => z_iadd d_L_law_224 (by omega) k9) ?_
    refine qy (fun _ _ k9 => z_ild (i + 1) d_L_law_225 (xs_1 he) (by omega) (by omega) k9) ?_
    refine qy (fun _ _ k9 => z_aload_n d_L_law_226 rfl rfl k9) ?_
    refine qy (fun _ _ k9 => z_iload_n d_L_law_227 rfl rfl k9) ?_
    refine qy (fun _ _ k9 => z_iconst d_L_law_228 (by decide) k9) ?_
    refine qy (fun _ _ k9 => z_iadd d_L_law_229 (by omega) k9) ?_
    refine qy (fun _ _ k9 => z_ild (i + 2) d_L_law_230 (xs_1 he) (by omega) (by omega) k9) ?_
    refine qy2 (fun _ _ => z_if_eq 238 d_L_law_231 (by decide)) (fun q => absurd q hz) (fun _ => ?_)
    refine qy (fun _ _ k9 => z_iconst d_L_law_234 (by decide) k9) ?_
    refine qy (fun _ _ k9 => z_goto 239 d_L_law_235 (by decide) k9) ?_
    refine qy (fun _ _ k9 => z_cv (M1 := M_X11_wall) d_L_law_239 lv_L_13 k_X11_wall [qI (S (i + 1)), qI 1] rfl rfl (xput_ob (c := F 2) xi_2 rfl (xsh_11 xo_2)) ⟨_, _, rfl⟩ (Nat.le_of_ble_eq_true rfl) (by decide) (by decide) (Nat.le_of_ble_eq_true rfl) k1 k9) ?_
    refine qy (fun _ _ k9 => z_eq rfl rfl xput_rput k9) ?_
    refine qy (fun _ _ k9 => z_aload_n d_L_law_242 rfl rfl k9) ?_
    refine qy (fun _ _ k9 => z_aload_n d_L_law_243 rfl rfl k9) ?_
    refine qy (fun _ _ k9 => z_iload_n d_L_law_244 rfl rfl k9) ?_
    refine qy (fun _ _ k9 => z_iconst d_L_law_245 (by decide) k9) ?_
    refine qy (fun _ _ k9 => z_iadd d_L_law_246 (by omega) k9) ?_
    refine qy (fun _ _ k9 => z_ild (i + 1) d_L_law_247 (xr_1 he) (by omega) (by omega) k9) ?_
    refine qy (fun _ _ k9 => z_aload_n d_L_law_248 rfl rfl k9) ?_
    refine qy (fun _ _ k9 => z_iload_n d_L_law_249 rfl rfl k9) ?_
    refine qy (fun _ _ k9 => z_iconst d_L_law_250 (by decide) k9) ?_
    refine qy (fun _ _ k9 => z_iadd d_L_law_251 (by omega) k9) ?_
    refine qy (fun _ _ k9 => z_ild (i + 2) d_L_law_252 (xr_1 he) (by omega) (by omega) k9) ?_
    refine qy2 (fun _ _ => z_if_eq 260 d_L_law_253 (by decide)) (fun q => absurd q hz) (fun _ => ?_)
    refine qy (fun _ _ k9 => z_iconst d_L_law_256 (by decide) k9) ?_
    refine qy (fun _ _ k9 => z_goto 261 d_L_law_257 (by decide) k9) ?_
    refine qy (fun _ _ k9 => z_cv (M1 := M_X12_wall) d_L_law_261 lv_L_17 k_X12_wall [qI (S (i + 1)), qI 1] rfl rfl rput_o ⟨_, _, rfl⟩ (Nat.le_of_ble_eq_true rfl) (by decide) (by decide) (Nat.le_of_ble_eq_true rfl) k2 k9) ?_
    refine qy (fun _ _ k9 => z_eq rfl rfl xput_rput.symm k9) ?_
    refine qy2 (fun _ _ => z_icmp_eq 1751 d_L_law_264 (by decide)) (fun _ => kk F' G' f' g' hR') (fun q => absurd rfl q)
set_option maxRecDepth 20000 in
theorem lw_1 {n i : Nat} {S : Nat → Int} {h : qH} {F G : Nat → Nat → Int} {f : Nat → Int} {g : Nat → Nat → Int} {Q : Option qA → qH → Prop} (he : h.2.2 1 = qAr 0 n S) (hn : n ≤ 1000000) (hi : i + 6 ≤ n) (hS : ∀ j, R32 (S j)) (hq : R32 (F 172 4)) (hR : Rel F G f g) (kk : ∀ F' G' f' g', Rel F' G' f' g' → qEy M_L_law 1751 [qR 1, qR 2, qR 220, qI (i : Int)] [] (xput (rput h 220 f' g') F' G') Q) : qEy M_L_law 269 [qR 1, qR 2, qR 220, qI (i : Int)] [] (xput (rput h 220 f g) F G) Q := by
  obtain ⟨v, F', G', f', g', hR', k1, k2⟩ := st_act (S (i + 1)) (S (i + 2)) (S (i + 3)) h F G f g hR
  refine qy (fun _ _ k9 => z_aload_n d_L_law_269 rfl rfl k9) ?_
  refine qy (fun _ _ k9 => z_aload_n d_L_law_270 rfl rfl k9) ?_
  refine qy (fun _ _ k9 => z_iload_n d_L_law_271 rfl rfl k9) ?_
  refine qy (fun _ _ k9 => z_iconst d_L_law_272 (by decide) k9) ?_
  refine qy (fun _ _ k9 => z_iadd d_L_law_273 (by omega) k9) ?_
  refine qy (fun _ _ k9 => z_ild (i + 1) d_L_law_274 (xs_1 he) (by omega) (by omega) k9) ?_
  refine qy (fun _ _ k9 => z_aload_n d_L_law_275 rfl rfl k9) ?_
  refine qy (fun _ _ k9 => z_iload_n d_L_law_276 rfl rfl k9) ?_
  refine qy (fun _ _ k9 => z_iconst d_L_law_277 (by decide) k9) ?_
  refine qy (fun _ _ k9 => z_iadd d_L_law_278 (by omega) k9) ?_
  refine qy (fun _ _ k9 => z_ild (i + 2) d_L_law_279 (xs_1 he) (by omega) (by omega) k9) ?_
  refine qy (fun _ _ k9 => z_aload_n d_L_law_280 rfl rfl k9) ?_
  refine qy (fun _ _ k9 => z_iload_n d_L_law_281 rfl rfl k9) ?_
  refine qy (fun _ _ k9 => z_iconst d_L_law_282 (by decide) k9) ?_
  refine qy (fun _ _ k9 => z_iadd d_L_law_283 (by omega) k9) ?_
  refine qy (fun _ _ k9 => z_ild (i + 3) d_L_law_284 (xs_1 he) (by omega) (by omega) k9) ?_
  refine qy (fun _ _ k9 => z_cv (M1 := M_X11_act) d_L_law_285 lv_L_18 k_X11_act [qI (S (i + 1)), qI (S (i + 2)), qI (S (i + 3))] rfl rfl (xput_ob (c := F 2) xi_2 rfl (xsh_11 xo_2)) ⟨_, _, rfl⟩ (Nat.le_of_ble_eq_true rfl) (by decide) (by decide) (Nat.le_of_ble_eq_true rfl) k1 k9) ?_
  refine qy (fun _ _ k9 => z_eq rfl rfl xput_rput k9) ?_
  refine qy (fun _ _ k9 => z_aload_n d_L_law_288 rfl rfl k9) ?_
  refine qy (fun _ _ k9 => z_aload_n d_L_law_289 rfl rfl k9) ?_
  refine qy (fun _ _ k9 => z_iload_n d_L_law_290 rfl rfl k9) ?_
  refine qy (fun _ _ k9 => z_iconst d_L_law_291 (by decide) k9) ?_
  refine qy (fun _ _ k9 => z_iadd d_L_law_292 (by omega) k9) ?_
  refine qy (fun _ _ k9 => z_ild (i + 1) d_L_law_293 (xr_1 he) (by omega) (by omega) k9) ?_
  refine qy (fun _ _ k9 => z_aload_n d_L_law_294 rfl rfl k9) ?_
  refine qy (fun _ _ k9 => z_iload_n d_L_law_295 rfl rfl k9) ?_
  refine qy (fun _ _ k9 => z_iconst d_L_law_296 (by decide) k9) ?_
  refine qy (fun _ _ k9 => z_iadd d_L_law_297 (by omega) k9) ?_
  refine qy (fun _ _ k9 => z_ild (i + 2) d_L_law_298 (xr_1 he) (by omega) (by omega) k9) ?_
  refine qy (fun _ _ k9 => z_aload_n d_L_law_299 rfl rfl k9) ?_
  refine qy (fun _ _ k9 => z_iload_n d_L_law_300 rfl rfl k9) ?_
  refine qy (fun _ _ k9 => z_iconst d_L_law_301 (by decide) k9) ?_
  refine qy (fun _ _ k9 => z_iadd d_L_law_302 (by omega) k9) ?_
  refine qy (fun _ _ k9 => z_ild (i + 3) d_L_law_303 (xr_1 he) (by omega) (by omega) k9) ?_
  refine qy (fun _ _ k9 => z_cv (M1 := M_X12_act) d_L_law_304 lv_L_22 k_X12_act [qI (S (i + 1)), qI (S (i + 2)), qI (S (i + 3))] rfl rfl rput_o ⟨_, _, rfl⟩ (Nat.le_of_ble_eq_true rfl) (by decide) (by decide) (Nat.le_of_ble_eq_true rfl) k2 k9) ?_
  refine qy (fun _ _ k9 => z_eq rfl rfl xput_rput.symm k9) ?_
  refine qy2 (fun _ _ => z_icmp_eq 1751 d_L_law_307 (by decide)) (fun _ => kk F' G' f' g' hR') (fun q => absurd rfl q)
set_option maxRecDepth 20000 in
theorem lw_2 {n i : Nat} {S : Nat → Int} {h : qH} {F G : Nat → Nat → Int} {f : Nat → Int} {g : Nat → Nat → Int} {Q : Option qA → qH → Prop} (he : h.2.2 1 = qAr 0 n S) (hn : n ≤ 1000000) (hi : i + 6 ≤ n) (hS : ∀ j, R32 (S j)) (hq : R32 (F 172 4)) (hR : Rel F G f g) (kk : ∀ F' G' f' g', Rel F' G' f' g' → qEy M_L_law 1751 [qR 1, qR 2, qR 220, qI (i : Int)] [] (xput (rput h 220 f' g') F' G') Q) : qEy M_L_law 312 [qR 1, qR 2, qR 220, qI (i : Int)] [] (xput (rput h 220 f g) F G) Q := by
  obtain ⟨v, F', G', f', g', hR', k1, k2⟩ := st_breaths (S (i + 1)) (hS _) h F G f g hR
  refine qy (fun _ _ k9 => z_aload_n d_L_law_312 rfl rfl k9) ?_
  refine qy (fun _ _ k9 => z_aload_n d_L_law_313 rfl rfl k9) ?_
  refine qy (fun _ _ k9 => z_iload_n d_L_law_314 rfl rfl k9) ?_
  refine qy (fun _ _ k9 => z_iconst d_L_law_315 (by decide) k9) ?_
  refine qy (fun _ _ k9 => z_iadd d_L_law_316 (by omega) k9) ?_
  refine qy (fun _ _ k9 => z_ild (i + 1) d_L_law_317 (xs_1 he) (by omega) (by omega) k9) ?_
  refine qy (fun _ _ k9 => z_cv (M1 := M_X11_breaths) d_L_law_318 lv_L_23 k_X11_breaths [qI (S (i + 1))] rfl rfl (xput_ob (c := F 2) xi_2 rfl (xsh_11 xo_2)) ⟨_, _, rfl⟩ (Nat.le_of_ble_eq_true rfl) (by decide) (by decide) (Nat.le_of_ble_eq_true rfl) k1 k9) ?_
  refine qy (fun _ _ k9 => z_eq rfl rfl xput_rput k9) ?_
  refine qy (fun _ _ k9 => z_aload_n d_L_law_321 rfl rfl k9) ?_
  refine qy (fun _ _ k9 => z_aload_n d_L_law_322 rfl rfl k9) ?_
  refine qy (fun _ _ k9 => z_iload_n d_L_law_323 rfl rfl k9) ?_
  refine qy (fun _ _ k9 => z_iconst d_L_law_324 (by decide) k9) ?_
  refine qy (fun _ _ k9 => z_iadd d_L_law_325 (by omega) k9) ?_
  refine qy (fun _ _ k9 => z_ild (i + 1) d_L_law_326 (xr_1 he) (by omega) (by omega) k9) ?_
  refine qy (fun _ _ k9 => z_cv (M1 := M_X12_breaths) d_L_law_327 lv_L_27 k_X12_breaths [qI (S (i + 1))] rfl rfl rput_o ⟨_, _, rfl⟩ (Nat.le_of_ble_eq_true rfl) (by decide) (by decide) (Nat.le_of_ble_eq_true rfl) k2 k9) ?_
  refine qy (fun _ _ k9 => z_eq rfl rfl xput_rput.symm k9) ?_
  refine qy2 (fun _ _ => z_icmp_eq 1751 d_L_law_330 (by decide)) (fun _ => kk F' G' f' g' hR') (fun q => absurd rfl q)
set_option maxRecDepth 20000 in
theorem lw_3 {n i : Nat} {S : Nat → Int} {h : qH} {F G : Nat → Nat → Int} {f : Nat → Int} {g : Nat → Nat → Int} {Q : Option qA → qH → Prop} (he : h.2.2 1 = qAr 0 n S) (hn : n ≤ 1000000) (hi : i + 6 ≤ n) (hS : ∀ j, R32 (S j)) (hq : R32 (F 172 4)) (hR : Rel F G f g) (kk : ∀ F' G' f' g', Rel F' G' f' g' → qEy M_L_law 1751 [qR 1, qR 2, qR 220, qI (i : Int)] [] (xput (rput h 220 f' g') F' G') Q) : qEy M_L_law 335 [qR 1, qR 2, qR 220, qI (i : Int)] [] (xput (rput h 220 f g) F G) Q := by
  obtain ⟨v, F', G', f', g', hR', k1, k2⟩ := st_feed (S (i + 1)) (S (i + 2)) (S (i + 3)) (S (i + 4)) (S (i + 5)) h F G f g hR
  refine qy (fun _ _ k9 => z_aload_n d_L_law_335 rfl rfl k9) ?_
  refine qy (fun _ _ k9 => z_aload_n d_L_law_336 rfl rfl k9) ?_
  refine qy (fun _ _ k9 => z_iload_n d_L_law_337 rfl rfl k9) ?_
  refine qy (fun _ _ k9 => z_iconst d_L_law_338 (by decide) k9) ?_
  refine qy (fun _ _ k9 => z_iadd d_L_law_339 (by omega) k9) ?_
  refine qy (fun _ _ k9 => z_ild (i + 1) d_L_law_340 (xs_1 he) (by omega) (by omega) k9) ?_
  refine qy (fun _ _ k9 => z_aload_n d_L_law_341 rfl rfl k9) ?_
  refine qy (fun _ _ k9 => z_iload_n d_L_law_342 rfl rfl k9) ?_
  refine qy (fun _ _ k9 => z_iconst d_L_law_343 (by decide) k9) ?_
  refine qy (fun _ _ k9 => z_iadd d_L_law_344 (by omega) k9) ?_
  refine qy (fun _ _ k9 => z_ild (i + 2) d_L_law_345 (xs_1 he) (by omega) (by omega) k9) ?_
  refine qy (fun _ _ k9 => z_aload_n d_L_law_346 rfl rfl k9) ?_
  refine qy (fun _ _ k9 => z_iload_n d_L_law_347 rfl rfl k9) ?_
  refine qy (fun _ _ k9 => z_iconst d_L_law_348 (by decide) k9) ?_
  refine qy (fun _ _ k9 => z_iadd d_L_law_349 (by omega) k9) ?_
  refine qy (fun _ _ k9 => z_ild (i + 3) d_L_law_350 (xs_1 he) (by omega) (by omega) k9) ?_
  refine qy (fun _ _ k9 => z_aload_n d_L_law_351 rfl rfl k9) ?_
  refine qy (fun _ _ k9 => z_iload_n d_L_law_352 rfl rfl k9) ?_
  refine qy (fun _ _ k9 => z_iconst d_L_law_353 (by decide) k9) ?_
  refine qy (fun _ _ k9 => z_iadd d_L_law_354 (by omega) k9) ?_
  refine qy (fun _ _ k9 => z_ild (i + 4) d_L_law_355 (xs_1 he) (by omega) (by omega) k9) ?_
  refine qy (fun _ _ k9 => z_aload_n d_L_law_356 rfl rfl k9) ?_
  refine qy (fun _ _ k9 => z_iload_n d_L_law_357 rfl rfl k9) ?_
  refine qy (fun _ _ k9 => z_iconst d_L_law_358 (by decide) k9) ?_
  refine qy (fun _ _ k9 => z_iadd d_L_law_359 (by omega) k9) ?_
  refine qy (fun _ _ k9 => z_ild (i + 5) d_L_law_360 (xs_1 he) (by omega) (by omega) k9) ?_
  refine qy (fun _ _ k9 => z_cv (M1 := M_X11_feed) d_L_law_361 lv_L_28 k_X11_feed [qI (S (i + 1)), qI (S (i + 2)), qI (S (i + 3)), qI (S (i + 4)), qI (S (i + 5))] rfl rfl (xput_ob (c := F 2) xi_2 rfl (xsh_11 xo_2)) ⟨_, _, rfl⟩ (Nat.le_of_ble_eq_true rfl) (by decide) (by decide) (Nat.le_of_ble_eq_true rfl) k1 k9) ?_
  refine qy (fun _ _ k9 => z_eq rfl rfl xput_rput k9) ?_
  refine qy (fun _ _ k9 => z_aload_n d_L_law_364 rfl rfl k9) ?_
  refine qy (fun _ _ k9 => z_aload_n d_L_law_365 rfl rfl k9) ?_
  refine qy (fun _ _ k9 => z_iload_n d_L_law_366 rfl rfl k9) ?_
  refine qy (fun _ _ k9 => z_iconst d_L_law_367 (by decide) k9) ?_
  refine qy (fun _ _ k9 => z_iadd d_L_law_368 (by omega) k9) ?_
  refine qy (fun _ _ k9 => z_ild (i + 1) d_L_law_369 (xr_1 he) (by omega) (by omega) k9) ?_
  refine qy (fun _ _ k9 => z_aload_n d_L_law_370 rfl rfl k9) ?_
  refine qy (fun _ _ k9 => z_iload_n d_L_law_371 rfl rfl k9) ?_
  refine qy (fun _ _ k9 => z_iconst d_L_law_372 (by decide) k9) ?_
  refine qy (fun _ _ k9 => z_iadd d_L_law_373 (by omega) k9) ?_
  refine qy (fun _ _ k9 => z_ild (i + 2) d_L_law_374 (xr_1 he) (by omega) (by omega) k9) ?_
  refine qy (fun _ _ k9 => z_aload_n d_L_law_375 rfl rfl k9) ?_
  refine qy (fun _ _ k9 => z_iload_n d_L_law_376 rfl rfl k9) ?_
  refine qy (fun _ _ k9 => z_iconst d_L_law_377 (by decide) k9) ?_
  refine qy (fun _ _ k9 => z_iadd d_L_law_378 (by omega) k9) ?_
  refine qy (fun _ _ k9 => z_ild (i + 3) d_L_law_379 (xr_1 he) (by omega) (by omega) k9) ?_
  refine qy (fun _ _ k9 => z_aload_n d_L_law_380 rfl rfl k9) ?_
  refine qy (fun _ _ k9 => z_iload_n d_L_law_381 rfl rfl k9) ?_
  refine qy (fun _ _ k9 => z_iconst d_L_law_382 (by decide) k9) ?_
  refine qy (fun _ _ k9 => z_iadd d_L_law_383 (by omega) k9) ?_
  refine qy (fun _ _ k9 => z_ild (i + 4) d_L_law_384 (xr_1 he) (by omega) (by omega) k9) ?_
  refine qy (fun _ _ k9 => z_aload_n d_L_law_385 rfl rfl k9) ?_
  refine qy (fun _ _ k9 => z_iload_n d_L_law_386 rfl rfl k9) ?_
  refine qy (fun _ _ k9 => z_iconst d_L_law_387 (by decide) k9) ?_
  refine qy (fun _ _ k9 => z_iadd d_L_law_388 (by omega) k9) ?_
  refine qy (fun _ _ k9 => z_ild (i + 5) d_L_law_389 (xr_1 he) (by omega) (by omega) k9) ?_
  refine qy (fun _ _ k9 => z_cv (M1 := M_X12_feed) d_L_law_390 lv_L_32 k_X12_feed [qI (S (i + 1)), qI (S (i + 2)), qI (S (i + 3)), qI (S (i + 4)), qI (S (i + 5))] rfl rfl rput_o ⟨_, _, rfl⟩ (Nat.le_of_ble_eq_true rfl) (by decide) (by decide) (Nat.le_of_ble_eq_true rfl) k2 k9) ?_
  refine qy (fun _ _ k9 => z_eq rfl rfl xput_rput.symm k9) ?_
  refine qy2 (fun _ _ => z_icmp_eq 1751 d_L_law_393 (by decide)) (fun _ => kk F' G' f' g' hR') (fun q => absurd rfl q)
set_option maxRecDepth 20000 in
theorem lw_4 {n i : Nat} {S : Nat → Int} {h : qH} {F G : Nat → Nat → Int} {f : Nat → Int} {g : Nat → Nat → Int} {Q : Option qA → qH → Prop} (he : h.2.2 1 = qAr 0 n S) (hn : n ≤ 1000000) (hi : i + 6 ≤ n) (hS : ∀ j, R32 (S j)) (hq : R32 (F 172 4)) (hR : Rel F G f g) (kk : ∀ F' G' f' g', Rel F' G' f' g' → qEy M_L_law 1751 [qR 1, qR 2, qR 220, qI (i : Int)] [] (xput (rput h 220 f' g') F' G') Q) : qEy M_L_law 398 [qR 1, qR 2, qR 220, qI (i : Int)] [] (xput (rput h 220 f g) F G) Q := by
  obtain ⟨v, F', G', f', g', hR', k1, k2⟩ := st_end (S (i + 1)) h F G f g hR
  refine qy (fun _ _ k9 => z_aload_n d_L_law_398 rfl rfl k9) ?_
  refine qy (fun _ _ k9 => z_aload_n d_L_law_399 rfl rfl k9) ?_
  refine qy (fun _ _ k9 => z_iload_n d_L_law_400 rfl rfl k9) ?_
  refine qy (fun _ _ k9 => z_iconst d_L_law_401 (by decide) k9) ?_
  refine qy (fun _ _ k9 => z_iadd d_L_law_402 (by omega) k9) ?_
  refine qy (fun _ _ k9 => z_ild (i + 1) d_L_law_403 (xs_1 he) (by omega) (by omega) k9) ?_
  refine qy (fun _ _ k9 => z_cv (M1 := M_X11_end) d_L_law_404 lv_L_33 k_X11_end [qI (S (i + 1))] rfl rfl (xput_ob (c := F 2) xi_2 rfl (xsh_11 xo_2)) ⟨_, _, rfl⟩ (Nat.le_of_ble_eq_true rfl) (by decide) (by decide) (Nat.le_of_ble_eq_true rfl) k1 k9) ?_
  refine qy (fun _ _ k9 => z_eq rfl rfl xput_rput k9) ?_
  refine qy (fun _ _ k9 => z_aload_n d_L_law_407 rfl rfl k9) ?_
  refine qy (fun _ _ k9 => z_aload_n d_L_law_408 rfl rfl k9) ?_
  refine qy (fun _ _ k9 => z_iload_n d_L_law_409 rfl rfl k9) ?_
  refine qy (fun _ _ k9 => z_iconst d_L_law_410 (by decide) k9) ?_
  refine qy (fun _ _ k9 => z_iadd d_L_law_411 (by omega) k9) ?_
  refine qy (fun _ _ k9 => z_ild (i + 1) d_L_law_412 (xr_1 he) (by omega) (by omega) k9) ?_
  refine qy (fun _ _ k9 => z_cv (M1 := M_X12_end) d_L_law_413 lv_L_37 k_X12_end [qI (S (i + 1))] rfl rfl rput_o ⟨_, _, rfl⟩ (Nat.le_of_ble_eq_true rfl) (by decide) (by decide) (Nat.le_of_ble_eq_true rfl) k2 k9) ?_
  refine qy (fun _ _ k9 => z_eq rfl rfl xput_rput.symm k9) ?_
  refine qy2 (fun _ _ => z_icmp_eq 1751 d_L_law_416 (by decide)) (fun _ => kk F' G' f' g' hR') (fun q => absurd rfl q)
set_option maxRecDepth 20000 in
theorem lw_5 {n i : Nat} {S : Nat → Int} {h : qH} {F G : Nat → Nat → Int} {f : Nat → Int} {g : Nat → Nat → Int} {Q : Option qA → qH → Prop} (he : h.2.2 1 = qAr 0 n S) (hn : n ≤ 1000000) (hi : i + 6 ≤ n) (hS : ∀ j, R32 (S j)) (hq : R32 (F 172 4)) (hR : Rel F G f g) (kk : ∀ F' G' f' g', Rel F' G' f' g' → qEy M_L_law 1751 [qR 1, qR 2, qR 220, qI (i : Int)] [] (xput (rput h 220 f' g') F' G') Q) : qEy M_L_law 421 [qR 1, qR 2, qR 220, qI (i : Int)] [] (xput (rput h 220 f g) F G) Q := by
  obtain ⟨v, F', G', f', g', hR', k1, k2⟩ := st_text (S (i + 1)) h F G f g hR
  refine qy (fun _ _ k9 => z_aload_n d_L_law_421 rfl rfl k9) ?_
  refine qy (fun _ _ k9 => z_aload_n d_L_law_422 rfl rfl k9) ?_
  refine qy (fun _ _ k9 => z_iload_n d_L_law_423 rfl rfl k9) ?_
  refine qy (fun _ _ k9 => z_iconst d_L_law_424 (by decide) k9) ?_
  refine qy (fun _ _ k9 => z_iadd d_L_law_425 (by omega) k9) ?_
  refine qy (fun _ _ k9 => z_ild (i + 1) d_L_law_426 (xs_1 he) (by omega) (by omega) k9) ?_
  refine qy (fun _ _ k9 => z_cv (M1 := M_X11_text) d_L_law_427 lv_L_38 k_X11_text [qI (S (i + 1))] rfl rfl (xput_ob (c := F 2) xi_2 rfl (xsh_11 xo_2)) ⟨_, _, rfl⟩ (Nat.le_of_ble_eq_true rfl) (by decide) (by decide) (Nat.le_of_ble_eq_true rfl) k1 k9) ?_
  refine qy (fun _ _ k9 => z_eq rfl rfl xput_rput k9) ?_
  refine qy (fun _ _ k9 => z_aload_n d_L_law_430 rfl rfl k9) ?_
  refine qy (fun _ _ k9 => z_aload_n d_L_law_431 rfl rfl k9) ?_
  refine qy (fun _ _ k9 => z_iload_n d_L_law_432 rfl rfl k9) ?_
  refine qy (fun _ _ k9 => z_iconst d_L_law_433 (by decide) k9) ?_
  refine qy (fun _ _ k9 => z_iadd d_L_law_434 (by omega) k9) ?_
  refine qy (fun _ _ k9 => z_ild (i + 1) d_L_law_435 (xr_1 he) (by omega) (by omega) k9) ?_
  refine qy (fun _ _ k9 => z_cv (M1 := M_X12_text) d_L_law_436 lv_L_41 k_X12_text [qI (S (i + 1))] rfl rfl rput_o ⟨_, _, rfl⟩ (Nat.le_of_ble_eq_true rfl) (by decide) (by decide) (Nat.le_of_ble_eq_true rfl) k2 k9) ?_
  refine qy (fun _ _ k9 => z_eq rfl rfl xput_rput.symm k9) ?_
  refine qy2 (fun _ _ => z_icmp_eq 1751 d_L_law_439 (by decide)) (fun _ => kk F' G' f' g' hR') (fun q => absurd rfl q)
set_option maxRecDepth 20000 in
theorem lw_6 {n i : Nat} {S : Nat → Int} {h : qH} {F G : Nat → Nat → Int} {f : Nat → Int} {g : Nat → Nat → Int} {Q : Option qA → qH → Prop} (he : h.2.2 1 = qAr 0 n S) (hn : n ≤ 1000000) (hi : i + 6 ≤ n) (hS : ∀ j, R32 (S j)) (hq : R32 (F 172 4)) (hR : Rel F G f g) (kk : ∀ F' G' f' g', Rel F' G' f' g' → qEy M_L_law 1751 [qR 1, qR 2, qR 220, qI (i : Int)] [] (xput (rput h 220 f' g') F' G') Q) : qEy M_L_law 444 [qR 1, qR 2, qR 220, qI (i : Int)] [] (xput (rput h 220 f g) F G) Q := by
  obtain ⟨v, F', G', f', g', hR', k1, k2⟩ := st_fault (S (i + 1)) h F G f g hR
  refine qy (fun _ _ k9 => z_aload_n d_L_law_444 rfl rfl k9) ?_
  refine qy (fun _ _ k9 => z_aload_n d_L_law_445 rfl rfl k9) ?_
  refine qy (fun _ _ k9 => z_iload_n d_L_law_446 rfl rfl k9) ?_
  refine qy (fun _ _ k9 => z_iconst d_L_law_447 (by decide) k9) ?_
  refine qy (fun _ _ k9 => z_iadd d_L_law_448 (by omega) k9) ?_
  refine qy (fun _ _ k9 => z_ild (i + 1) d_L_law_449 (xs_1 he) (by omega) (by omega) k9) ?_
  refine qy (fun _ _ k9 => z_cv (M1 := M_X11_fault) d_L_law_450 lv_L_42 k_X11_fault [qI (S (i + 1))] rfl rfl (xput_ob (c := F 2) xi_2 rfl (xsh_11 xo_2)) ⟨_, _, rfl⟩ (Nat.le_of_ble_eq_true rfl) (by decide) (by decide) (Nat.le_of_ble_eq_true rfl) k1 k9) ?_
  refine qy (fun _ _ k9 => z_eq rfl rfl xput_rput k9) ?_
  refine qy (fun _ _ k9 => z_aload_n d_L_law_453 rfl rfl k9) ?_
  refine qy (fun _ _ k9 => z_aload_n d_L_law_454 rfl rfl k9) ?_
  refine qy (fun _ _ k9 => z_iload_n d_L_law_455 rfl rfl k9) ?_
  refine qy (fun _ _ k9 => z_iconst d_L_law_456 (by decide) k9) ?_
  refine qy (fun _ _ k9 => z_iadd d_L_law_457 (by omega) k9) ?_
  refine qy (fun _ _ k9 => z_ild (i + 1) d_L_law_458 (xr_1 he) (by omega) (by omega) k9) ?_
  refine qy (fun _ _ k9 => z_cv (M1 := M_X12_fault) d_L_law_459 lv_L_45 k_X12_fault [qI (S (i + 1))] rfl rfl rput_o ⟨_, _, rfl⟩ (Nat.le_of_ble_eq_true rfl) (by decide) (by decide) (Nat.le_of_ble_eq_true rfl) k2 k9) ?_
  refine qy (fun _ _ k9 => z_eq rfl rfl xput_rput.symm k9) ?_
  refine qy2 (fun _ _ => z_icmp_eq 1751 d_L_law_462 (by decide)) (fun _ => kk F' G' f' g' hR') (fun q => absurd rfl q)
set_option maxRecDepth 20000 in
theorem lw_7 {n i : Nat} {S : Nat → Int} {h : qH} {F G : Nat → Nat → Int} {f : Nat → Int} {g : Nat → Nat → Int} {Q : Option qA → qH → Prop} (he : h.2.2 1 = qAr 0 n S) (hn : n ≤ 1000000) (hi : i + 6 ≤ n) (hS : ∀ j, R32 (S j)) (hq : R32 (F 172 4)) (hR : Rel F G f g) (kk : ∀ F' G' f' g', Rel F' G' f' g' → qEy M_L_law 1751 [qR 1, qR 2, qR 220, qI (i : Int)] [] (xput (rput h 220 f' g') F' G') Q) : qEy M_L_law 467 [qR 1, qR 2, qR 220, qI (i : Int)] [] (xput (rput h 220 f g) F G) Q := by
  obtain ⟨v, F', G', f', g', hR', k1, k2⟩ := st_of (S (i + 1)) (S (i + 2)) h F G f g hR
  refine qy (fun _ _ k9 => z_aload_n d_L_law_467 rfl rfl k9) ?_
  refine qy (fun _ _ k9 => z_aload_n d_L_law_468 rfl rfl k9) ?_
  refine qy (fun _ _ k9 => z_iload_n d_L_law_469 rfl rfl k9) ?_
  refine qy (fun _ _ k9 => z_iconst d_L_law_470 (by decide) k9) ?_
  refine qy (fun _ _ k9 => z_iadd d_L_law_471 (by omega) k9) ?_
  refine qy (fun _ _ k9 => z_ild (i + 1) d_L_law_472 (xs_1 he) (by omega) (by omega) k9) ?_
  refine qy (fun _ _ k9 => z_aload_n d_L_law_473 rfl rfl k9) ?_
  refine qy (fun _ _ k9 => z_iload_n d_L_law_474 rfl rfl k9) ?_
  refine qy (fun _ _ k9 => z_iconst d_L_law_475 (by decide) k9) ?_
  refine qy (fun _ _ k9 => z_iadd d_L_law_476 (by omega) k9) ?_
  refine qy (fun _ _ k9 => z_ild (i + 2) d_L_law_477 (xs_1 he) (by omega) (by omega) k9) ?_
  refine qy (fun _ _ k9 => z_cv (M1 := M_X11_of) d_L_law_478 lv_L_46 k_X11_of [qI (S (i + 1)), qI (S (i + 2))] rfl rfl (xput_ob (c := F 2) xi_2 rfl (xsh_11 xo_2)) ⟨_, _, rfl⟩ (Nat.le_of_ble_eq_true rfl) (by decide) (by decide) (Nat.le_of_ble_eq_true rfl) k1 k9) ?_
  refine qy (fun _ _ k9 => z_eq rfl rfl xput_rput k9) ?_
  refine qy (fun _ _ k9 => z_aload_n d_L_law_481 rfl rfl k9) ?_
  refine qy (fun _ _ k9 => z_aload_n d_L_law_482 rfl rfl k9) ?_
  refine qy (fun _ _ k9 => z_iload_n d_L_law_483 rfl rfl k9) ?_
  refine qy (fun _ _ k9 => z_iconst d_L_law_484 (by decide) k9) ?_
  refine qy (fun _ _ k9 => z_iadd d_L_law_485 (by omega) k9) ?_
  refine qy (fun _ _ k9 => z_ild (i + 1) d_L_law_486 (xr_1 he) (by omega) (by omega) k9) ?_
  refine qy (fun _ _ k9 => z_aload_n d_L_law_487 rfl rfl k9) ?_
  refine qy (fun _ _ k9 => z_iload_n d_L_law_488 rfl rfl k9) ?_
  refine qy (fun _ _ k9 => z_iconst d_L_law_489 (by decide) k9) ?_
  refine qy (fun _ _ k9 => z_iadd d_L_law_490 (by omega) k9) ?_
  refine qy (fun _ _ k9 => z_ild (i + 2) d_L_law_491 (xr_1 he) (by omega) (by omega) k9) ?_
  refine qy (fun _ _ k9 => z_cv (M1 := M_X12_of) d_L_law_492 lv_L_50 k_X12_of [qI (S (i + 1)), qI (S (i + 2))] rfl rfl rput_o ⟨_, _, rfl⟩ (Nat.le_of_ble_eq_true rfl) (by decide) (by decide) (Nat.le_of_ble_eq_true rfl) k2 k9) ?_
  refine qy (fun _ _ k9 => z_eq rfl rfl xput_rput.symm k9) ?_
  refine qy2 (fun _ _ => z_icmp_eq 1751 d_L_law_495 (by decide)) (fun _ => kk F' G' f' g' hR') (fun q => absurd rfl q)
set_option maxRecDepth 20000 in
theorem lw_8 {n i : Nat} {S : Nat → Int} {h : qH} {F G : Nat → Nat → Int} {f : Nat → Int} {g : Nat → Nat → Int} {Q : Option qA → qH → Prop} (he : h.2.2 1 = qAr 0 n S) (hn : n ≤ 1000000) (hi : i + 6 ≤ n) (hS : ∀ j, R32 (S j)) (hq : R32 (F 172 4)) (hR : Rel F G f g) (kk : ∀ F' G' f' g', Rel F' G' f' g' → qEy M_L_law 1751 [qR 1, qR 2, qR 220, qI (i : Int)] [] (xput (rput h 220 f' g') F' G') Q) : qEy M_L_law 500 [qR 1, qR 2, qR 220, qI (i : Int)] [] (xput (rput h 220 f g) F G) Q := by
  obtain ⟨v, F', G', f', g', hR', k1, k2⟩ := st_says (S (i + 1)) (S (i + 2)) (S (i + 3)) (S (i + 4)) h F G f g hR
  refine qy (fun _ _ k9 => z_aload_n d_L_law_500 rfl rfl k9) ?_
  refine qy (fun _ _ k9 => z_aload_n d_L_law_501 rfl rfl k9) ?_
  refine qy (fun _ _ k9 => z_iload_n d_L_law_502 rfl rfl k9) ?_
  refine qy (fun _ _ k9 => z_iconst d_L_law_503 (by decide) k9) ?_
  refine qy (fun _ _ k9 => z_iadd d_L_law_504 (by omega) k9) ?_
  refine qy (fun _ _ k9 => z_ild (i + 1) d_L_law_505 (xs_1 he) (by omega) (by omega) k9) ?_
  refine qy (fun _ _ k9 => z_aload_n d_L_law_506 rfl rfl k9) ?_
  refine qy (fun _ _ k9 => z_iload_n d_L_law_507 rfl rfl k9) ?_
  refine qy (fun _ _ k9 => z_iconst d_L_law_508 (by decide) k9) ?_
  refine qy (fun _ _ k9 => z_iadd d_L_law_509 (by omega) k9) ?_
  refine qy (fun _ _ k9 => z_ild (i + 2) d_L_law_510 (xs_1 he) (by omega) (by omega) k9) ?_
  refine qy (fun _ _ k9 => z_aload_n d_L_law_511 rfl rfl k9) ?_
  refine qy (fun _ _ k9 => z_iload_n d_L_law_512 rfl rfl k9) ?_
  refine qy (fun _ _ k9 => z_iconst d_L_law_513 (by decide) k9) ?_
  refine qy (fun _ _ k9 => z_iadd d_L_law_514 (by omega) k9) ?_
  refine qy (fun _ _ k9 => z_ild (i + 3) d_L_law_515 (xs_1 he) (by omega) (by omega) k9) ?_
  refine qy (fun _ _ k9 => z_aload_n d_L_law_516 rfl rfl k9) ?_
  refine qy (fun _ _ k9 => z_iload_n d_L_law_517 rfl rfl k9) ?_
  refine qy (fun _ _ k9 => z_iconst d_L_law_518 (by decide) k9) ?_
  refine qy (fun _ _ k9 => z_iadd d_L_law_519 (by omega) k9) ?_
  refine qy (fun _ _ k9 => z_ild (i + 4) d_L_law_520 (xs_1 he) (by omega) (by omega) k9) ?_
  refine qy (fun _ _ k9 => z_cv (M1 := M_X11_says) d_L_law_521 lv_L_51 k_X11_says [qI (S (i + 1)), qI (S (i + 2)), qI (S (i + 3)), qI (S (i + 4))] rfl rfl (xput_ob (c := F 2) xi_2 rfl (xsh_11 xo_2)) ⟨_, _, rfl⟩ (Nat.le_of_ble_eq_true rfl) (by decide) (by decide) (Nat.le_of_ble_eq_true rfl) k1 k9) ?_
  refine qy (fun _ _ k9 => z_eq rfl rfl xput_rput k9) ?_
  refine qy (fun _ _ k9 => z_aload_n d_L_law_524 rfl rfl k9) ?_
  refine qy (fun _ _ k9 => z_aload_n d_L_law_525 rfl rfl k9) ?_
  refine qy (fun _ _ k9 => z_iload_n d_L_law_526 rfl rfl k9) ?_
  refine qy (fun _ _ k9 => z_iconst d_L_law_527 (by decide) k9) ?_
  refine qy (fun _ _ k9 => z_iadd d_L_law_528 (by omega) k9) ?_
  refine qy (fun _ _ k9 => z_ild (i + 1) d_L_law_529 (xr_1 he) (by omega) (by omega) k9) ?_
  refine qy (fun _ _ k9 => z_aload_n d_L_law_530 rfl rfl k9) ?_
  refine qy (fun _ _ k9 => z_iload_n d_L_law_531 rfl rfl k9) ?_
  refine qy (fun _ _ k9 => z_iconst d_L_law_532 (by decide) k9) ?_
  refine qy (fun _ _ k9 => z_iadd d_L_law_533 (by omega) k9) ?_
  refine qy (fun _ _ k9 => z_ild (i + 2) d_L_law_534 (xr_1 he) (by omega) (by omega) k9) ?_
  refine qy (fun _ _ k9 => z_aload_n d_L_law_535 rfl rfl k9) ?_
  refine qy (fun _ _ k9 => z_iload_n d_L_law_536 rfl rfl k9) ?_
  refine qy (fun _ _ k9 => z_iconst d_L_law_537 (by decide) k9) ?_
  refine qy (fun _ _ k9 => z_iadd d_L_law_538 (by omega) k9) ?_
  refine qy (fun _ _ k9 => z_ild (i + 3) d_L_law_539 (xr_1 he) (by omega) (by omega) k9) ?_
  refine qy (fun _ _ k9 => z_aload_n d_L_law_540 rfl rfl k9) ?_
  refine qy (fun _ _ k9 => z_iload_n d_L_law_541 rfl rfl k9) ?_
  refine qy (fun _ _ k9 => z_iconst d_L_law_542 (by decide) k9) ?_
  refine qy (fun _ _ k9 => z_iadd d_L_law_543 (by omega) k9) ?_
  refine qy (fun _ _ k9 => z_ild (i + 4) d_L_law_544 (xr_1 he) (by omega) (by omega) k9) ?_
  refine qy (fun _ _ k9 => z_cv (M1 := M_X12_says) d_L_law_545 lv_L_55 k_X12_says [qI (S (i + 1)), qI (S (i + 2)), qI (S (i + 3)), qI (S (i + 4))] rfl rfl rput_o ⟨_, _, rfl⟩ (Nat.le_of_ble_eq_true rfl) (by decide) (by decide) (Nat.le_of_ble_eq_true rfl) k2 k9) ?_
  refine qy (fun _ _ k9 => z_eq rfl rfl xput_rput.symm k9) ?_
  refine qy2 (fun _ _ => z_icmp_eq 1751 d_L_law_548 (by decide)) (fun _ => kk F' G' f' g' hR') (fun q => absurd rfl q)
set_option maxRecDepth 20000 in
theorem lw_9 {n i : Nat} {S : Nat → Int} {h : qH} {F G : Nat → Nat → Int} {f : Nat → Int} {g : Nat → Nat → Int} {Q : Option qA → qH → Prop} (he : h.2.2 1 = qAr 0 n S) (hn : n ≤ 1000000) (hi : i + 6 ≤ n) (hS : ∀ j, R32 (S j)) (hq : R32 (F 172 4)) (hR : Rel F G f g) (kk : ∀ F' G' f' g', Rel F' G' f' g' → qEy M_L_law 1751 [qR 1, qR 2, qR 220, qI (i : Int)] [] (xput (rput h 220 f' g') F' G') Q) : qEy M_L_law 553 [qR 1, qR 2, qR 220, qI (i : Int)] [] (xput (rput h 220 f g) F G) Q := by
  obtain ⟨v, F', G', f', g', hR', k1, k2⟩ := st_log (S (i + 1)) (S (i + 2)) h F G f g hR
  refine qy (fun _ _ k9 => z_aload_n d_L_law_553 rfl rfl k9) ?_
  refine qy (fun _ _ k9 => z_aload_n d_L_law_554 rfl rfl k9) ?_
  refine qy (fun _ _ k9 => z_iload_n d_L_law_555 rfl rfl k9) ?_
  refine qy (fun _ _ k9 => z_iconst d_L_law_556 (by decide) k9) ?_
  refine qy (fun _ _ k9 => z_iadd d_L_law_557 (by omega) k9) ?_
  refine qy (fun _ _ k9 => z_ild (i + 1) d_L_law_558 (xs_1 he) (by omega) (by omega) k9) ?_
  refine qy (fun _ _ k9 => z_aload_n d_L_law_559 rfl rfl k9) ?_
  refine qy (fun _ _ k9 => z_iload_n d_L_law_560 rfl rfl k9) ?_
  refine qy (fun _ _ k9 => z_iconst d_L_law_561 (by decide) k9) ?_
  refine qy (fun _ _ k9 => z_iadd d_L_law_562 (by omega) k9) ?_
  refine qy (fun _ _ k9 => z_ild (i + 2) d_L_law_563 (xs_1 he) (by omega) (by omega) k9) ?_
  refine qy (fun _ _ k9 => z_cv (M1 := M_X11_log) d_L_law_564 lv_L_56 k_X11_log [qI (S (i + 1)), qI (S (i + 2))] rfl rfl (xput_ob (c := F 2) xi_2 rfl (xsh_11 xo_2)) ⟨_, _, rfl⟩ (Nat.le_of_ble_eq_true rfl) (by decide) (by decide) (Nat.le_of_ble_eq_true rfl) k1 k9) ?_
  refine qy (fun _ _ k9 => z_eq rfl rfl xput_rput k9) ?_
  refine qy (fun _ _ k9 => z_aload_n d_L_law_567 rfl rfl k9) ?_
  refine qy (fun _ _ k9 => z_aload_n d_L_law_568 rfl rfl k9) ?_
  refine qy (fun _ _ k9 => z_iload_n d_L_law_569 rfl rfl k9) ?_
  refine qy (fun _ _ k9 => z_iconst d_L_law_570 (by decide) k9) ?_
  refine qy (fun _ _ k9 => z_iadd d_L_law_571 (by omega) k9) ?_
  refine qy (fun _ _ k9 => z_ild (i + 1) d_L_law_572 (xr_1 he) (by omega) (by omega) k9) ?_
  refine qy (fun _ _ k9 => z_aload_n d_L_law_573 rfl rfl k9) ?_
  refine qy (fun _ _ k9 => z_iload_n d_L_law_574 rfl rfl k9) ?_
  refine qy (fun _ _ k9 => z_iconst d_L_law_575 (by decide) k9) ?_
  refine qy (fun _ _ k9 => z_iadd d_L_law_576 (by omega) k9) ?_
  refine qy (fun _ _ k9 => z_ild (i + 2) d_L_law_577 (xr_1 he) (by omega) (by omega) k9) ?_
  refine qy (fun _ _ k9 => z_cv (M1 := M_X12_log) d_L_law_578 lv_L_59 k_X12_log [qI (S (i + 1)), qI (S (i + 2))] rfl rfl rput_o ⟨_, _, rfl⟩ (Nat.le_of_ble_eq_true rfl) (by decide) (by decide) (Nat.le_of_ble_eq_true rfl) k2 k9) ?_
  refine qy (fun _ _ k9 => z_eq rfl rfl xput_rput.symm k9) ?_
  refine qy2 (fun _ _ => z_icmp_eq 1751 d_L_law_581 (by decide)) (fun _ => kk F' G' f' g' hR') (fun q => absurd rfl q)
set_option maxRecDepth 20000 in
theorem lw_10 {n i : Nat} {S : Nat → Int} {h : qH} {F G : Nat → Nat → Int} {f : Nat → Int} {g : Nat → Nat → Int} {Q : Option qA → qH → Prop} (he : h.2.2 1 = qAr 0 n S) (hn : n ≤ 1000000) (hi : i + 6 ≤ n) (hS : ∀ j, R32 (S j)) (hq : R32 (F 172 4)) (hR : Rel F G f g) (kk : ∀ F' G' f' g', Rel F' G' f' g' → qEy M_L_law 1751 [qR 1, qR 2, qR 220, qI (i : Int)] [] (xput (rput h 220 f' g') F' G') Q) : qEy M_L_law 586 [qR 1, qR 2, qR 220, qI (i : Int)] [] (xput (rput h 220 f g) F G) Q := by
  obtain ⟨v, F', G', f', g', hR', k1, k2⟩ := st_fires (S (i + 1)) (S (i + 2)) (S (i + 3)) (hS _) h F G f g hR
  refine qy (fun _ _ k9 => z_aload_n d_L_law_586 rfl rfl k9) ?_
  refine qy (fun _ _ k9 => z_aload_n d_L_law_587 rfl rfl k9) ?_
  refine qy (fun _ _ k9 => z_iload_n d_L_law_588 rfl rfl k9) ?_
  refine qy (fun _ _ k9 => z_iconst d_L_law_589 (by decide) k9) ?_
  refine qy (fun _ _ k9 => z_iadd d_L_law_590 (by omega) k9) ?_
  refine qy (fun _ _ k9 => z_ild (i + 1) d_L_law_591 (xs_1 he) (by omega) (by omega) k9) ?_
  refine qy (fun _ _ k9 => z_aload_n d_L_law_592 rfl rfl k9) ?_
  refine qy (fun _ _ k9 => z_iload_n d_L_law_593 rfl rfl k9) ?_
  refine qy (fun _ _ k9 => z_iconst d_L_law_594 (by decide) k9) ?_
  refine qy (fun _ _ k9 => z_iadd d_L_law_595 (by omega) k9) ?_
  refine qy (fun _ _ k9 => z_ild (i + 2) d_L_law_596 (xs_1 he) (by omega) (by omega) k9) ?_
  refine qy (fun _ _ k9 => z_aload_n d_L_law_597 rfl rfl k9) ?_
  refine qy (fun _ _ k9 => z_iload_n d_L_law_598 rfl rfl k9) ?_
  refine qy (fun _ _ k9 => z_iconst d_L_law_599 (by decide) k9) ?_
  refine qy (fun _ _ k9 => z_iadd d_L_law_600 (by omega) k9) ?_
  refine qy (fun _ _ k9 => z_ild (i + 3) d_L_law_601 (xs_1 he) (by omega) (by omega) k9) ?_
  refine qy (fun _ _ k9 => z_cv (M1 := M_X11_fires) d_L_law_602 lv_L_60 k_X11_fires [qI (S (i + 1)), qI (S (i + 2)), qI (S (i + 3))] rfl rfl (xput_ob (c := F 2) xi_2 rfl (xsh_11 xo_2)) ⟨_, _, rfl⟩ (Nat.le_of_ble_eq_true rfl) (by decide) (by decide) (Nat.le_of_ble_eq_true rfl) k1 k9) ?_
  refine qy (fun _ _ k9 => z_eq rfl rfl xput_rput k9) ?_
  refine qy (fun _ _ k9 => z_aload_n d_L_law_605 rfl rfl k9) ?_
  refine qy (fun _ _ k9 => z_aload_n d_L_law_606 rfl rfl k9) ?_
  refine qy (fun _ _ k9 => z_iload_n d_L_law_607 rfl rfl k9) ?_
  refine qy (fun _ _ k9 => z_iconst d_L_law_608 (by decide) k9) ?_
  refine qy (fun _ _ k9 => z_iadd d_L_law_609 (by omega) k9) ?_
  refine qy (fun _ _ k9 => z_ild (i + 1) d_L_law_610 (xr_1 he) (by omega) (by omega) k9) ?_
  refine qy (fun _ _ k9 => z_aload_n d_L_law_611 rfl rfl k9) ?_
  refine qy (fun _ _ k9 => z_iload_n d_L_law_612 rfl rfl k9) ?_
  refine qy (fun _ _ k9 => z_iconst d_L_law_613 (by decide) k9) ?_
  refine qy (fun _ _ k9 => z_iadd d_L_law_614 (by omega) k9) ?_
  refine qy (fun _ _ k9 => z_ild (i + 2) d_L_law_615 (xr_1 he) (by omega) (by omega) k9) ?_
  refine qy (fun _ _ k9 => z_aload_n d_L_law_616 rfl rfl k9) ?_
  refine qy (fun _ _ k9 => z_iload_n d_L_law_617 rfl rfl k9) ?_
  refine qy (fun _ _ k9 => z_iconst d_L_law_618 (by decide) k9) ?_
  refine qy (fun _ _ k9 => z_iadd d_L_law_619 (by omega) k9) ?_
  refine qy (fun _ _ k9 => z_ild (i + 3) d_L_law_620 (xr_1 he) (by omega) (by omega) k9) ?_
  refine qy (fun _ _ k9 => z_cv (M1 := M_X12_fires) d_L_law_621 lv_L_64 k_X12_fires [qI (S (i + 1)), qI (S (i + 2)), qI (S (i + 3))] rfl rfl rput_o ⟨_, _, rfl⟩ (Nat.le_of_ble_eq_true rfl) (by decide) (by decide) (Nat.le_of_ble_eq_true rfl) k2 k9) ?_
  refine qy (fun _ _ k9 => z_eq rfl rfl xput_rput.symm k9) ?_
  refine qy2 (fun _ _ => z_icmp_eq 1751 d_L_law_624 (by decide)) (fun _ => kk F' G' f' g' hR') (fun q => absurd rfl q)
set_option maxRecDepth 20000 in
theorem lw_11 {n i : Nat} {S : Nat → Int} {h : qH} {F G : Nat → Nat → Int} {f : Nat → Int} {g : Nat → Nat → Int} {Q : Option qA → qH → Prop} (he : h.2.2 1 = qAr 0 n S) (hn : n ≤ 1000000) (hi : i + 6 ≤ n) (hS : ∀ j, R32 (S j)) (hq : R32 (F 172 4)) (hR : Rel F G f g) (kk : ∀ F' G' f' g', Rel F' G' f' g' → qEy M_L_law 1751 [qR 1, qR 2, qR 220, qI (i : Int)] [] (xput (rput h 220 f' g') F' G') Q) : qEy M_L_law 629 [qR 1, qR 2, qR 220, qI (i : Int)] [] (xput (rput h 220 f g) F G) Q := by
  obtain ⟨v, F', G', f', g', hR', k1, k2⟩ := st_works (S (i + 1)) (S (i + 2)) h F G f g hR
  refine qy (fun _ _ k9 => z_aload_n d_L_law_629 rfl rfl k9) ?_
  refine qy (fun _ _ k9 => z_aload_n d_L_law_630 rfl rfl k9) ?_
  refine qy (fun _ _ k9 => z_iload_n d_L_law_631 rfl rfl k9) ?_
  refine qy (fun _ _ k9 => z_iconst d_L_law_632 (by decide) k9) ?_
  refine qy (fun _ _ k9 => z_iadd d_L_law_633 (by omega) k9) ?_
  refine qy (fun _ _ k9 => z_ild (i + 1) d_L_law_634 (xs_1 he) (by omega) (by omega) k9) ?_
  refine qy (fun _ _ k9 => z_aload_n d_L_law_635 rfl rfl k9) ?_
  refine qy (fun _ _ k9 => z_iload_n d_L_law_636 rfl rfl k9) ?_
  refine qy (fun _ _ k9 => z_iconst d_L_law_637 (by decide) k9) ?_
  refine qy (fun _ _ k9 => z_iadd d_L_law_638 (by omega) k9) ?_
  refine qy (fun _ _ k9 => z_ild (i + 2) d_L_law_639 (xs_1 he) (by omega) (by omega) k9) ?_
  refine qy (fun _ _ k9 => z_cv (M1 := M_X11_works) d_L_law_640 lv_L_65 k_X11_works [qI (S (i + 1)), qI (S (i + 2))] rfl rfl (xput_ob (c := F 2) xi_2 rfl (xsh_11 xo_2)) ⟨_, _, rfl⟩ (Nat.le_of_ble_eq_true rfl) (by decide) (by decide) (Nat.le_of_ble_eq_true rfl) k1 k9) ?_
  refine qy (fun _ _ k9 => z_eq rfl rfl xput_rput k9) ?_
  refine qy (fun _ _ k9 => z_aload_n d_L_law_643 rfl rfl k9) ?_
  refine qy (fun _ _ k9 => z_aload_n d_L_law_644 rfl rfl k9) ?_
  refine qy (fun _ _ k9 => z_iload_n d_L_law_645 rfl rfl k9) ?_
  refine qy (fun _ _ k9 => z_iconst d_L_law_646 (by decide) k9) ?_
  refine qy (fun _ _ k9 => z_iadd d_L_law_647 (by omega) k9) ?_
  refine qy (fun _ _ k9 => z_ild (i + 1) d_L_law_648 (xr_1 he) (by omega) (by omega) k9) ?_
  refine qy (fun _ _ k9 => z_aload_n d_L_law_649 rfl rfl k9) ?_
  refine qy (fun _ _ k9 => z_iload_n d_L_law_650 rfl rfl k9) ?_
  refine qy (fun _ _ k9 => z_iconst d_L_law_651 (by decide) k9) ?_
  refine qy (fun _ _ k9 => z_iadd d_L_law_652 (by omega) k9) ?_
  refine qy (fun _ _ k9 => z_ild (i + 2) d_L_law_653 (xr_1 he) (by omega) (by omega) k9) ?_
  refine qy (fun _ _ k9 => z_cv (M1 := M_X12_works) d_L_law_654 lv_L_68 k_X12_works [qI (S (i + 1)), qI (S (i + 2))] rfl rfl rput_o ⟨_, _, rfl⟩ (Nat.le_of_ble_eq_true rfl) (by decide) (by decide) (Nat.le_of_ble_eq_true rfl) k2 k9) ?_
  refine qy (fun _ _ k9 => z_eq rfl rfl xput_rput.symm k9) ?_
  refine qy2 (fun _ _ => z_icmp_eq 1751 d_L_law_657 (by decide)) (fun _ => kk F' G' f' g' hR') (fun q => absurd rfl q)
set_option maxRecDepth 20000 in
theorem lw_12 {n i : Nat} {S : Nat → Int} {h : qH} {F G : Nat → Nat → Int} {f : Nat → Int} {g : Nat → Nat → Int} {Q : Option qA → qH → Prop} (he : h.2.2 1 = qAr 0 n S) (hn : n ≤ 1000000) (hi : i + 6 ≤ n) (hS : ∀ j, R32 (S j)) (hq : R32 (F 172 4)) (hR : Rel F G f g) (kk : ∀ F' G' f' g', Rel F' G' f' g' → qEy M_L_law 1751 [qR 1, qR 2, qR 220, qI (i : Int)] [] (xput (rput h 220 f' g') F' G') Q) : qEy M_L_law 662 [qR 1, qR 2, qR 220, qI (i : Int)] [] (xput (rput h 220 f g) F G) Q := by
  obtain ⟨v, F', G', f', g', hR', k1, k2⟩ := st_soon (S (i + 1)) (S (i + 2)) (S (i + 3)) (hS _) h F G f g hR
  refine qy (fun _ _ k9 => z_aload_n d_L_law_662 rfl rfl k9) ?_
  refine qy (fun _ _ k9 => z_aload_n d_L_law_663 rfl rfl k9) ?_
  refine qy (fun _ _ k9 => z_iload_n d_L_law_664 rfl rfl k9) ?_
  refine qy (fun _ _ k9 => z_iconst d_L_law_665 (by decide) k9) ?_
  refine qy (fun _ _ k9 => z_iadd d_L_law_666 (by omega) k9) ?_
  refine qy (fun _ _ k9 => z_ild (i + 1) d_L_law_667 (xs_1 he) (by omega) (by omega) k9) ?_
  refine qy (fun _ _ k9 => z_aload_n d_L_law_668 rfl rfl k9) ?_
  refine qy (fun _ _ k9 => z_iload_n d_L_law_669 rfl rfl k9) ?_
  refine qy (fun _ _ k9 => z_iconst d_L_law_670 (by decide) k9) ?_
  refine qy (fun _ _ k9 => z_iadd d_L_law_671 (by omega) k9) ?_
  refine qy (fun _ _ k9 => z_ild (i + 2) d_L_law_672 (xs_1 he) (by omega) (by omega) k9) ?_
  refine qy (fun _ _ k9 => z_aload_n d_L_law_673 rfl rfl k9) ?_
  refine qy (fun _ _ k9 => z_iload_n d_L_law_674 rfl rfl k9) ?_
  refine qy (fun _ _ k9 => z_iconst d_L_law_675 (by decide) k9) ?_
  refine qy (fun _ _ k9 => z_iadd d_L_law_676 (by omega) k9) ?_
  refine qy (fun _ _ k9 => z_ild (i + 3) d_L_law_677 (xs_1 he) (by omega) (by omega) k9) ?_
  refine qy (fun _ _ k9 => z_cv (M1 := M_X11_soon) d_L_law_678 lv_L_69 k_X11_soon [qI (S (i + 1)), qI (S (i + 2)), qI (S (i + 3))] rfl rfl (xput_ob (c := F 2) xi_2 rfl (xsh_11 xo_2)) ⟨_, _, rfl⟩ (Nat.le_of_ble_eq_true rfl) (by decide) (by decide) (Nat.le_of_ble_eq_true rfl) k1 k9) ?_
  refine qy (fun _ _ k9 => z_eq rfl rfl xput_rput k9) ?_
  refine qy (fun _ _ k9 => z_aload_n d_L_law_681 rfl rfl k9) ?_
  refine qy (fun _ _ k9 => z_aload_n d_L_law_682 rfl rfl k9) ?_
  refine qy (fun _ _ k9 => z_iload_n d_L_law_683 rfl rfl k9) ?_
  refine qy (fun _ _ k9 => z_iconst d_L_law_684 (by decide) k9) ?_
  refine qy (fun _ _ k9 => z_iadd d_L_law_685 (by omega) k9) ?_
  refine qy (fun _ _ k9 => z_ild (i + 1) d_L_law_686 (xr_1 he) (by omega) (by omega) k9) ?_
  refine qy (fun _ _ k9 => z_aload_n d_L_law_687 rfl rfl k9) ?_
  refine qy (fun _ _ k9 => z_iload_n d_L_law_688 rfl rfl k9) ?_
  refine qy (fun _ _ k9 => z_iconst d_L_law_689 (by decide) k9) ?_
  refine qy (fun _ _ k9 => z_iadd d_L_law_690 (by omega) k9) ?_
  refine qy (fun _ _ k9 => z_ild (i + 2) d_L_law_691 (xr_1 he) (by omega) (by omega) k9) ?_
  refine qy (fun _ _ k9 => z_aload_n d_L_law_692 rfl rfl k9) ?_
  refine qy (fun _ _ k9 => z_iload_n d_L_law_693 rfl rfl k9) ?_
  refine qy (fun _ _ k9 => z_iconst d_L_law_694 (by decide) k9) ?_
  refine qy (fun _ _ k9 => z_iadd d_L_law_695 (by omega) k9) ?_
  refine qy (fun _ _ k9 => z_ild (i + 3) d_L_law_696 (xr_1 he) (by omega) (by omega) k9) ?_
  refine qy (fun _ _ k9 => z_cv (M1 := M_X12_soon) d_L_law_697 lv_L_72 k_X12_soon [qI (S (i + 1)), qI (S (i + 2)), qI (S (i + 3))] rfl rfl rput_o ⟨_, _, rfl⟩ (Nat.le_of_ble_eq_true rfl) (by decide) (by decide) (Nat.le_of_ble_eq_true rfl) k2 k9) ?_
  refine qy (fun _ _ k9 => z_eq rfl rfl xput_rput.symm k9) ?_
  refine qy2 (fun _ _ => z_icmp_eq 1751 d_L_law_700 (by decide)) (fun _ => kk F' G' f' g' hR') (fun q => absurd rfl q)
set_option maxRecDepth 20000 in
theorem lw_13 {n i : Nat} {S : Nat → Int} {h : qH} {F G : Nat → Nat → Int} {f : Nat → Int} {g : Nat → Nat → Int} {Q : Option qA → qH → Prop} (he : h.2.2 1 = qAr 0 n S) (hn : n ≤ 1000000) (hi : i + 6 ≤ n) (hS : ∀ j, R32 (S j)) (hq : R32 (F 172 4)) (hR : Rel F G f g) (kk : ∀ F' G' f' g', Rel F' G' f' g' → qEy M_L_law 1751 [qR 1, qR 2, qR 220, qI (i : Int)] [] (xput (rput h 220 f' g') F' G') Q) : qEy M_L_law 705 [qR 1, qR 2, qR 220, qI (i : Int)] [] (xput (rput h 220 f g) F G) Q := by
  obtain ⟨v, F', G', f', g', hR', k1, k2⟩ := st_used (S (i + 1)) (S (i + 2)) h F G f g hR
  refine qy (fun _ _ k9 => z_aload_n d_L_law_705 rfl rfl k9) ?_
  refine qy (fun _ _ k9 => z_aload_n d_L_law_706 rfl rfl k9) ?_
  refine qy (fun _ _ k9 => z_iload_n d_L_law_707 rfl rfl k9) ?_
  refine qy (fun _ _ k9 => z_iconst d_L_law_708 (by decide) k9) ?_
  refine qy (fun _ _ k9 => z_iadd d_L_law_709 (by omega) k9) ?_
  refine qy (fun _ _ k9 => z_ild (i + 1) d_L_law_710 (xs_1 he) (by omega) (by omega) k9) ?_
  refine qy (fun _ _ k9 => z_aload_n d_L_law_711 rfl rfl k9) ?_
  refine qy (fun _ _ k9 => z_iload_n d_L_law_712 rfl rfl k9) ?_
  refine qy (fun _ _ k9 => z_iconst d_L_law_713 (by decide) k9) ?_
  refine qy (fun _ _ k9 => z_iadd d_L_law_714 (by omega) k9) ?_
  refine qy (fun _ _ k9 => z_ild (i + 2) d_L_law_715 (xs_1 he) (by omega) (by omega) k9) ?_
  refine qy (fun _ _ k9 => z_cv (M1 := M_X11_used) d_L_law_716 lv_L_73 k_X11_used [qI (S (i + 1)), qI (S (i + 2))] rfl rfl (xput_ob (c := F 2) xi_2 rfl (xsh_11 xo_2)) ⟨_, _, rfl⟩ (Nat.le_of_ble_eq_true rfl) (by decide) (by decide) (Nat.le_of_ble_eq_true rfl) k1 k9) ?_
  refine qy (fun _ _ k9 => z_eq rfl rfl xput_rput k9) ?_
  refine qy (fun _ _ k9 => z_aload_n d_L_law_719 rfl rfl k9) ?_
  refine qy (fun _ _ k9 => z_aload_n d_L_law_720 rfl rfl k9) ?_
  refine qy (fun _ _ k9 => z_iload_n d_L_law_721 rfl rfl k9) ?_
  refine qy (fun _ _ k9 => z_iconst d_L_law_722 (by decide) k9) ?_
  refine qy (fun _ _ k9 => z_iadd d_L_law_723 (by omega) k9) ?_
  refine qy (fun _ _ k9 => z_ild (i + 1) d_L_law_724 (xr_1 he) (by omega) (by omega) k9) ?_
  refine qy (fun _ _ k9 => z_aload_n d_L_law_725 rfl rfl k9) ?_
  refine qy (fun _ _ k9 => z_iload_n d_L_law_726 rfl rfl k9) ?_
  refine qy (fun _ _ k9 => z_iconst d_L_law_727 (by decide) k9) ?_
  refine qy (fun _ _ k9 => z_iadd d_L_law_728 (by omega) k9) ?_
  refine qy (fun _ _ k9 => z_ild (i + 2) d_L_law_729 (xr_1 he) (by omega) (by omega) k9) ?_
  refine qy (fun _ _ k9 => z_cv (M1 := M_X12_used) d_L_law_730 lv_L_76 k_X12_used [qI (S (i + 1)), qI (S (i + 2))] rfl rfl rput_o ⟨_, _, rfl⟩ (Nat.le_of_ble_eq_true rfl) (by decide) (by decide) (Nat.le_of_ble_eq_true rfl) k2 k9) ?_
  refine qy (fun _ _ k9 => z_eq rfl rfl xput_rput.symm k9) ?_
  refine qy2 (fun _ _ => z_icmp_eq 1751 d_L_law_733 (by decide)) (fun _ => kk F' G' f' g' hR') (fun q => absurd rfl q)
set_option maxRecDepth 20000 in
theorem lw_14 {n i : Nat} {S : Nat → Int} {h : qH} {F G : Nat → Nat → Int} {f : Nat → Int} {g : Nat → Nat → Int} {Q : Option qA → qH → Prop} (he : h.2.2 1 = qAr 0 n S) (hn : n ≤ 1000000) (hi : i + 6 ≤ n) (hS : ∀ j, R32 (S j)) (hq : R32 (F 172 4)) (hR : Rel F G f g) (kk : ∀ F' G' f' g', Rel F' G' f' g' → qEy M_L_law 1751 [qR 1, qR 2, qR 220, qI (i : Int)] [] (xput (rput h 220 f' g') F' G') Q) : qEy M_L_law 738 [qR 1, qR 2, qR 220, qI (i : Int)] [] (xput (rput h 220 f g) F G) Q := by
  obtain ⟨v, F', G', f', g', hR', k1, k2⟩ := st_worn (S (i + 1)) (S (i + 2)) h F G f g hR
  refine qy (fun _ _ k9 => z_aload_n d_L_law_738 rfl rfl k9) ?_
  refine qy (fun _ _ k9 => z_aload_n d_L_law_739 rfl rfl k9) ?_
  refine qy (fun _ _ k9 => z_iload_n d_L_law_740 rfl rfl k9) ?_
  refine qy (fun _ _ k9 => z_iconst d_L_law_741 (by decide) k9) ?_
  refine qy (fun _ _ k9 => z_iadd d_L_law_742 (by omega) k9) ?_
  refine qy (fun _ _ k9 => z_ild (i + 1) d_L_law_743 (xs_1 he) (by omega) (by omega) k9) ?_
  refine qy (fun _ _ k9 => z_aload_n d_L_law_744 rfl rfl k9) ?_
  refine qy (fun _ _ k9 => z_iload_n d_L_law_745 rfl rfl k9) ?_
  refine qy (fun _ _ k9 => z_iconst d_L_law_746 (by decide) k9) ?_
  refine qy (fun _ _ k9 => z_iadd d_L_law_747 (by omega) k9) ?_
  refine qy (fun _ _ k9 => z_ild (i + 2) d_L_law_748 (xs_1 he) (by omega) (by omega) k9) ?_
  refine qy (fun _ _ k9 => z_cv (M1 := M_X11_worn) d_L_law_749 lv_L_77 k_X11_worn [qI (S (i + 1)), qI (S (i + 2))] rfl rfl (xput_ob (c := F 2) xi_2 rfl (xsh_11 xo_2)) ⟨_, _, rfl⟩ (Nat.le_of_ble_eq_true rfl) (by decide) (by decide) (Nat.le_of_ble_eq_true rfl) k1 k9) ?_
  refine qy (fun _ _ k9 => z_eq rfl rfl xput_rput k9) ?_
  refine qy (fun _ _ k9 => z_aload_n d_L_law_752 rfl rfl k9) ?_
  refine qy (fun _ _ k9 => z_aload_n d_L_law_753 rfl rfl k9) ?_
  refine qy (fun _ _ k9 => z_iload_n d_L_law_754 rfl rfl k9) ?_
  refine qy (fun _ _ k9 => z_iconst d_L_law_755 (by decide) k9) ?_
  refine qy (fun _ _ k9 => z_iadd d_L_law_756 (by omega) k9) ?_
  refine qy (fun _ _ k9 => z_ild (i + 1) d_L_law_757 (xr_1 he) (by omega) (by omega) k9) ?_
  refine qy (fun _ _ k9 => z_aload_n d_L_law_758 rfl rfl k9) ?_
  refine qy (fun _ _ k9 => z_iload_n d_L_law_759 rfl rfl k9) ?_
  refine qy (fun _ _ k9 => z_iconst d_L_law_760 (by decide) k9) ?_
  refine qy (fun _ _ k9 => z_iadd d_L_law_761 (by omega) k9) ?_
  refine qy (fun _ _ k9 => z_ild (i + 2) d_L_law_762 (xr_1 he) (by omega) (by omega) k9) ?_
  refine qy (fun _ _ k9 => z_cv (M1 := M_X12_worn) d_L_law_763 lv_L_80 k_X12_worn [qI (S (i + 1)), qI (S (i + 2))] rfl rfl rput_o ⟨_, _, rfl⟩ (Nat.le_of_ble_eq_true rfl) (by decide) (by decide) (Nat.le_of_ble_eq_true rfl) k2 k9) ?_
  refine qy (fun _ _ k9 => z_eq rfl rfl xput_rput.symm k9) ?_
  refine qy2 (fun _ _ => z_icmp_eq 1751 d_L_law_766 (by decide)) (fun _ => kk F' G' f' g' hR') (fun q => absurd rfl q)
set_option maxRecDepth 20000 in
theorem lw_15 {n i : Nat} {S : Nat → Int} {h : qH} {F G : Nat → Nat → Int} {f : Nat → Int} {g : Nat → Nat → Int} {Q : Option qA → qH → Prop} (he : h.2.2 1 = qAr 0 n S) (hn : n ≤ 1000000) (hi : i + 6 ≤ n) (hS : ∀ j, R32 (S j)) (hq : R32 (F 172 4)) (hR : Rel F G f g) (kk : ∀ F' G' f' g', Rel F' G' f' g' → qEy M_L_law 1751 [qR 1, qR 2, qR 220, qI (i : Int)] [] (xput (rput h 220 f' g') F' G') Q) : qEy M_L_law 771 [qR 1, qR 2, qR 220, qI (i : Int)] [] (xput (rput h 220 f g) F G) Q := by
  obtain ⟨v, F', G', f', g', hR', k1, k2⟩ := st_mends (S (i + 1)) (S (i + 2)) h F G f g hR
  refine qy (fun _ _ k9 => z_aload_n d_L_law_771 rfl rfl k9) ?_
  refine qy (fun _ _ k9 => z_aload_n d_L_law_772 rfl rfl k9) ?_
  refine qy (fun _ _ k9 => z_iload_n d_L_law_773 rfl rfl k9) ?_
  refine qy (fun _ _ k9 => z_iconst d_L_law_774 (by decide) k9) ?_
  refine qy (fun _ _ k9 => z_iadd d_L_law_775 (by omega) k9) ?_
  refine qy (fun _ _ k9 => z_ild (i + 1) d_L_law_776 (xs_1 he) (by omega) (by omega) k9) ?_
  refine qy (fun _ _ k9 => z_aload_n d_L_law_777 rfl rfl k9) ?_
  refine qy (fun _ _ k9 => z_iload_n d_L_law_778 rfl rfl k9) ?_
  refine qy (fun _ _ k9 => z_iconst d_L_law_779 (by decide) k9) ?_
  refine qy (fun _ _ k9 => z_iadd d_L_law_780 (by omega) k9) ?_
  refine qy (fun _ _ k9 => z_ild (i + 2) d_L_law_781 (xs_1 he) (by omega) (by omega) k9) ?_
  refine qy (fun _ _ k9 => z_cv (M1 := M_X11_mends) d_L_law_782 lv_L_81 k_X11_mends [qI (S (i + 1)), qI (S (i + 2))] rfl rfl (xput_ob (c := F 2) xi_2 rfl (xsh_11 xo_2)) ⟨_, _, rfl⟩ (Nat.le_of_ble_eq_true rfl) (by decide) (by decide) (Nat.le_of_ble_eq_true rfl) k1 k9) ?_
  refine qy (fun _ _ k9 => z_eq rfl rfl xput_rput k9) ?_
  refine qy (fun _ _ k9 => z_aload_n d_L_law_785 rfl rfl k9) ?_
  refine qy (fun _ _ k9 => z_aload_n d_L_law_786 rfl rfl k9) ?_
  refine qy (fun _ _ k9 => z_iload_n d_L_law_787 rfl rfl k9) ?_
  refine qy (fun _ _ k9 => z_iconst d_L_law_788 (by decide) k9) ?_
  refine qy (fun _ _ k9 => z_iadd d_L_law_789 (by omega) k9) ?_
  refine qy (fun _ _ k9 => z_ild (i + 1) d_L_law_790 (xr_1 he) (by omega) (by omega) k9) ?_
  refine qy (fun _ _ k9 => z_aload_n d_L_law_791 rfl rfl k9) ?_
  refine qy (fun _ _ k9 => z_iload_n d_L_law_792 rfl rfl k9) ?_
  refine qy (fun _ _ k9 => z_iconst d_L_law_793 (by decide) k9) ?_
  refine qy (fun _ _ k9 => z_iadd d_L_law_794 (by omega) k9) ?_
  refine qy (fun _ _ k9 => z_ild (i + 2) d_L_law_795 (xr_1 he) (by omega) (by omega) k9) ?_
  refine qy (fun _ _ k9 => z_cv (M1 := M_X12_mends) d_L_law_796 lv_L_84 k_X12_mends [qI (S (i + 1)), qI (S (i + 2))] rfl rfl rput_o ⟨_, _, rfl⟩ (Nat.le_of_ble_eq_true rfl) (by decide) (by decide) (Nat.le_of_ble_eq_true rfl) k2 k9) ?_
  refine qy (fun _ _ k9 => z_eq rfl rfl xput_rput.symm k9) ?_
  refine qy2 (fun _ _ => z_icmp_eq 1751 d_L_law_799 (by decide)) (fun _ => kk F' G' f' g' hR') (fun q => absurd rfl q)
set_option maxRecDepth 20000 in
theorem lw_16 {n i : Nat} {S : Nat → Int} {h : qH} {F G : Nat → Nat → Int} {f : Nat → Int} {g : Nat → Nat → Int} {Q : Option qA → qH → Prop} (he : h.2.2 1 = qAr 0 n S) (hn : n ≤ 1000000) (hi : i + 6 ≤ n) (hS : ∀ j, R32 (S j)) (hq : R32 (F 172 4)) (hR : Rel F G f g) (kk : ∀ F' G' f' g', Rel F' G' f' g' → qEy M_L_law 1751 [qR 1, qR 2, qR 220, qI (i : Int)] [] (xput (rput h 220 f' g') F' G') Q) : qEy M_L_law 804 [qR 1, qR 2, qR 220, qI (i : Int)] [] (xput (rput h 220 f g) F G) Q := by
  obtain ⟨v, F', G', f', g', hR', k1, k2⟩ := st_more (S (i + 1)) (S (i + 2)) hq hR
  refine qy (fun _ _ k9 => z_aload_n d_L_law_804 rfl rfl k9) ?_
  refine qy (fun _ _ k9 => z_aload_n d_L_law_805 rfl rfl k9) ?_
  refine qy (fun _ _ k9 => z_iload_n d_L_law_806 rfl rfl k9) ?_
  refine qy (fun _ _ k9 => z_iconst d_L_law_807 (by decide) k9) ?_
  refine qy (fun _ _ k9 => z_iadd d_L_law_808 (by omega) k9) ?_
  refine qy (fun _ _ k9 => z_ild (i + 1) d_L_law_809 (xs_1 he) (by omega) (by omega) k9) ?_
  refine qy (fun _ _ k9 => z_aload_n d_L_law_810 rfl rfl k9) ?_
  refine qy (fun _ _ k9 => z_iload_n d_L_law_811 rfl rfl k9) ?_
  refine qy (fun _ _ k9 => z_iconst d_L_law_812 (by decide) k9) ?_
  refine qy (fun _ _ k9 => z_iadd d_L_law_813 (by omega) k9) ?_
  refine qy (fun _ _ k9 => z_ild (i + 2) d_L_law_814 (xs_1 he) (by omega) (by omega) k9) ?_
  refine qy (fun _ _ k9 => z_cv (M1 := M_X11_more) d_L_law_815 lv_L_85 k_X11_more [qI (S (i + 1)), qI (S (i + 2))] rfl rfl (xput_ob (c := F 2) xi_2 rfl (xsh_11 xo_2)) ⟨_, _, rfl⟩ (Nat.le_of_ble_eq_true rfl) (by decide) (by decide) (Nat.le_of_ble_eq_true rfl) k1 k9) ?_
  refine qy (fun _ _ k9 => z_eq rfl rfl xput_rput k9) ?_
  refine qy (fun _ _ k9 => z_aload_n d_L_law_818 rfl rfl k9) ?_
  refine qy (fun _ _ k9 => z_aload_n d_L_law_819 rfl rfl k9) ?_
  refine qy (fun _ _ k9 => z_iload_n d_L_law_820 rfl rfl k9) ?_
  refine qy (fun _ _ k9 => z_iconst d_L_law_821 (by decide) k9) ?_
  refine qy (fun _ _ k9 => z_iadd d_L_law_822 (by omega) k9) ?_
  refine qy (fun _ _ k9 => z_ild (i + 1) d_L_law_823 (xr_1 he) (by omega) (by omega) k9) ?_
  refine qy (fun _ _ k9 => z_aload_n d_L_law_824 rfl rfl k9) ?_
  refine qy (fun _ _ k9 => z_iload_n d_L_law_825 rfl rfl k9) ?_
  refine qy (fun _ _ k9 => z_iconst d_L_law_826 (by decide) k9) ?_
  refine qy (fun _ _ k9 => z_iadd d_L_law_827 (by omega) k9) ?_
  refine qy (fun _ _ k9 => z_ild (i + 2) d_L_law_828 (xr_1 he) (by omega) (by omega) k9) ?_
  refine qy (fun _ _ k9 => z_cv (M1 := M_X12_more) d_L_law_829 lv_L_88 k_X12_more [qI (S (i + 1)), qI (S (i + 2))] rfl rfl rput_o ⟨_, _, rfl⟩ (Nat.le_of_ble_eq_true rfl) (by decide) (by decide) (Nat.le_of_ble_eq_true rfl) k2 k9) ?_
  refine qy (fun _ _ k9 => z_eq rfl rfl xput_rput.symm k9) ?_
  refine qy2 (fun _ _ => z_icmp_eq 1751 d_L_law_832 (by decide)) (fun _ => kk F' G' f' g' hR') (fun q => absurd rfl q)
set_option maxRecDepth 20000 in
theorem lw_17 {n i : Nat} {S : Nat → Int} {h : qH} {F G : Nat → Nat → Int} {f : Nat → Int} {g : Nat → Nat → Int} {Q : Option qA → qH → Prop} (he : h.2.2 1 = qAr 0 n S) (hn : n ≤ 1000000) (hi : i + 6 ≤ n) (hS : ∀ j, R32 (S j)) (hq : R32 (F 172 4)) (hR : Rel F G f g) (kk : ∀ F' G' f' g', Rel F' G' f' g' → qEy M_L_law 1751 [qR 1, qR 2, qR 220, qI (i : Int)] [] (xput (rput h 220 f' g') F' G') Q) : qEy M_L_law 837 [qR 1, qR 2, qR 220, qI (i : Int)] [] (xput (rput h 220 f g) F G) Q := by
  obtain ⟨v, F', G', f', g', hR', k1, k2⟩ := st_two (S (i + 1)) (S (i + 2)) h F G f g hR
  refine qy (fun _ _ k9 => z_aload_n d_L_law_837 rfl rfl k9) ?_
  refine qy (fun _ _ k9 => z_aload_n d_L_law_838 rfl rfl k9) ?_
  refine qy (fun _ _ k9 => z_iload_n d_L_law_839 rfl rfl k9) ?_
  refine qy (fun _ _ k9 => z_iconst d_L_law_840 (by decide) k9) ?_
  refine qy (fun _ _ k9 => z_iadd d_L_law_841 (by omega) k9) ?_
  refine qy (fun _ _ k9 => z_ild (i + 1) d_L_law_842 (xs_1 he) (by omega) (by omega) k9) ?_
  refine qy (fun _ _ k9 => z_aload_n d_L_law_843 rfl rfl k9) ?_
  refine qy (fun _ _ k9 => z_iload_n d_L_law_844 rfl rfl k9) ?_
  refine qy (fun _ _ k9 => z_iconst d_L_law_845 (by decide) k9) ?_
  refine qy (fun _ _ k9 => z_iadd d_L_law_846 (by omega) k9) ?_
  refine qy (fun _ _ k9 => z_ild (i + 2) d_L_law_847 (xs_1 he) (by omega) (by omega) k9) ?_
  refine qy (fun _ _ k9 => z_cv (M1 := M_X11_two) d_L_law_848 lv_L_89 k_X11_two [qI (S (i + 1)), qI (S (i + 2))] rfl rfl (xput_ob (c := F 2) xi_2 rfl (xsh_11 xo_2)) ⟨_, _, rfl⟩ (Nat.le_of_ble_eq_true rfl) (by decide) (by decide) (Nat.le_of_ble_eq_true rfl) k1 k9) ?_
  refine qy (fun _ _ k9 => z_eq rfl rfl xput_rput k9) ?_
  refine qy (fun _ _ k9 => z_aload_n d_L_law_851 rfl rfl k9) ?_
  refine qy (fun _ _ k9 => z_aload_n d_L_law_852 rfl rfl k9) ?_
  refine qy (fun _ _ k9 => z_iload_n d_L_law_853 rfl rfl k9) ?_
  refine qy (fun _ _ k9 => z_iconst d_L_law_854 (by decide) k9) ?_
  refine qy (fun _ _ k9 => z_iadd d_L_law_855 (by omega) k9) ?_
  refine qy (fun _ _ k9 => z_ild (i + 1) d_L_law_856 (xr_1 he) (by omega) (by omega) k9) ?_
  refine qy (fun _ _ k9 => z_aload_n d_L_law_857 rfl rfl k9) ?_
  refine qy (fun _ _ k9 => z_iload_n d_L_law_858 rfl rfl k9) ?_
  refine qy (fun _ _ k9 => z_iconst d_L_law_859 (by decide) k9) ?_
  refine qy (fun _ _ k9 => z_iadd d_L_law_860 (by omega) k9) ?_
  refine qy (fun _ _ k9 => z_ild (i + 2) d_L_law_861 (xr_1 he) (by omega) (by omega) k9) ?_
  refine qy (fun _ _ k9 => z_cv (M1 := M_X12_two) d_L_law_862 lv_L_92 k_X12_two [qI (S (i + 1)), qI (S (i + 2))] rfl rfl rput_o ⟨_, _, rfl⟩ (Nat.le_of_ble_eq_true rfl) (by decide) (by decide) (Nat.le_of_ble_eq_true rfl) k2 k9) ?_
  refine qy (fun _ _ k9 => z_eq rfl rfl xput_rput.symm k9) ?_
  refine qy2 (fun _ _ => z_icmp_eq 1751 d_L_law_865 (by decide)) (fun _ => kk F' G' f' g' hR') (fun q => absurd rfl q)
set_option maxRecDepth 20000 in
theorem lw_18 {n i : Nat} {S : Nat → Int} {h : qH} {F G : Nat → Nat → Int} {f : Nat → Int} {g : Nat → Nat → Int} {Q : Option qA → qH → Prop} (he : h.2.2 1 = qAr 0 n S) (hn : n ≤ 1000000) (hi : i + 6 ≤ n) (hS : ∀ j, R32 (S j)) (hq : R32 (F 172 4)) (hR : Rel F G f g) (kk : ∀ F' G' f' g', Rel F' G' f' g' → qEy M_L_law 1751 [qR 1, qR 2, qR 220, qI (i : Int)] [] (xput (rput h 220 f' g') F' G') Q) : qEy M_L_law 870 [qR 1, qR 2, qR 220, qI (i : Int)] [] (xput (rput h 220 f g) F G) Q := by
  obtain ⟨v, F', G', f', g', hR', k1, k2⟩ := st_deafened (S (i + 1)) (S (i + 2)) (S (i + 3)) (hS _) h F G f g hR
  refine qy (fun _ _ k9 => z_aload_n d_L_law_870 rfl rfl k9) ?_
  refine qy (fun _ _ k9 => z_aload_n d_L_law_871 rfl rfl k9) ?_
  refine qy (fun _ _ k9 => z_iload_n d_L_law_872 rfl rfl k9) ?_
  refine qy (fun _ _ k9 => z_iconst d_L_law_873 (by decide) k9) ?_
  refine qy (fun _ _ k9 => z_iadd d_L_law_874 (by omega) k9) ?_
  refine qy (fun _ _ k9 => z_ild (i + 1) d_L_law_875 (xs_1 he) (by omega) (by omega) k9) ?_
  refine qy (fun _ _ k9 => z_aload_n d_L_law_876 rfl rfl k9) ?_
  refine qy (fun _ _ k9 => z_iload_n d_L_law_877 rfl rfl k9) ?_
  refine qy (fun _ _ k9 => z_iconst d_L_law_878 (by decide) k9) ?_
  refine qy (fun _ _ k9 => z_iadd d_L_law_879 (by omega) k9) ?_
  refine qy (fun _ _ k9 => z_ild (i + 2) d_L_law_880 (xs_1 he) (by omega) (by omega) k9) ?_
  refine qy (fun _ _ k9 => z_aload_n d_L_law_881 rfl rfl k9) ?_
  refine qy (fun _ _ k9 => z_iload_n d_L_law_882 rfl rfl k9) ?_
  refine qy (fun _ _ k9 => z_iconst d_L_law_883 (by decide) k9) ?_
  refine qy (fun _ _ k9 => z_iadd d_L_law_884 (by omega) k9) ?_
  refine qy (fun _ _ k9 => z_ild (i + 3) d_L_law_885 (xs_1 he) (by omega) (by omega) k9) ?_
  refine qy (fun _ _ k9 => z_cv (M1 := M_X11_deafened) d_L_law_886 lv_L_93 k_X11_deafened [qI (S (i + 1)), qI (S (i + 2)), qI (S (i + 3))] rfl rfl (xput_ob (c := F 2) xi_2 rfl (xsh_11 xo_2)) ⟨_, _, rfl⟩ (Nat.le_of_ble_eq_true rfl) (by decide) (by decide) (Nat.le_of_ble_eq_true rfl) k1 k9) ?_
  refine qy (fun _ _ k9 => z_eq rfl rfl xput_rput k9) ?_
  refine qy (fun _ _ k9 => z_aload_n d_L_law_889 rfl rfl k9) ?_
  refine qy (fun _ _ k9 => z_aload_n d_L_law_890 rfl rfl k9) ?_
  refine qy (fun _ _ k9 => z_iload_n d_L_law_891 rfl rfl k9) ?_
  refine qy (fun _ _ k9 => z_iconst d_L_law_892 (by decide) k9) ?_
  refine qy (fun _ _ k9 => z_iadd d_L_law_893 (by omega) k9) ?_
  refine qy (fun _ _ k9 => z_ild (i + 1) d_L_law_894 (xr_1 he) (by omega) (by omega) k9) ?_
  refine qy (fun _ _ k9 => z_aload_n d_L_law_895 rfl rfl k9) ?_
  refine qy (fun _ _ k9 => z_iload_n d_L_law_896 rfl rfl k9) ?_
  refine qy (fun _ _ k9 => z_iconst d_L_law_897 (by decide) k9) ?_
  refine qy (fun _ _ k9 => z_iadd d_L_law_898 (by omega) k9) ?_
  refine qy (fun _ _ k9 => z_ild (i + 2) d_L_law_899 (xr_1 he) (by omega) (by omega) k9) ?_
  refine qy (fun _ _ k9 => z_aload_n d_L_law_900 rfl rfl k9) ?_
  refine qy (fun _ _ k9 => z_iload_n d_L_law_901 rfl rfl k9) ?_
  refine qy (fun _ _ k9 => z_iconst d_L_law_902 (by decide) k9) ?_
  refine qy (fun _ _ k9 => z_iadd d_L_law_903 (by omega) k9) ?_
  refine qy (fun _ _ k9 => z_ild (i + 3) d_L_law_904 (xr_1 he) (by omega) (by omega) k9) ?_
  refine qy (fun _ _ k9 => z_cv (M1 := M_X12_deafened) d_L_law_905 lv_L_96 k_X12_deafened [qI (S (i + 1)), qI (S (i + 2)), qI (S (i + 3))] rfl rfl rput_o ⟨_, _, rfl⟩ (Nat.le_of_ble_eq_true rfl) (by decide) (by decide) (Nat.le_of_ble_eq_true rfl) k2 k9) ?_
  refine qy (fun _ _ k9 => z_eq rfl rfl xput_rput.symm k9) ?_
  refine qy2 (fun _ _ => z_icmp_eq 1751 d_L_law_908 (by decide)) (fun _ => kk F' G' f' g' hR') (fun q => absurd rfl q)
set_option maxRecDepth 20000 in
theorem lw_19 {n i : Nat} {S : Nat → Int} {h : qH} {F G : Nat → Nat → Int} {f : Nat → Int} {g : Nat → Nat → Int} {Q : Option qA → qH → Prop} (he : h.2.2 1 = qAr 0 n S) (hn : n ≤ 1000000) (hi : i + 6 ≤ n) (hS : ∀ j, R32 (S j)) (hq : R32 (F 172 4)) (hR : Rel F G f g) (kk : ∀ F' G' f' g', Rel F' G' f' g' → qEy M_L_law 1751 [qR 1, qR 2, qR 220, qI (i : Int)] [] (xput (rput h 220 f' g') F' G') Q) : qEy M_L_law 913 [qR 1, qR 2, qR 220, qI (i : Int)] [] (xput (rput h 220 f g) F G) Q := by
  obtain ⟨v, F', G', f', g', hR', k1, k2⟩ := st_ring (S (i + 1)) (S (i + 2)) (S (i + 3)) (hS _) h F G f g hR
  refine qy (fun _ _ k9 => z_aload_n d_L_law_913 rfl rfl k9) ?_
  refine qy (fun _ _ k9 => z_aload_n d_L_law_914 rfl rfl k9) ?_
  refine qy (fun _ _ k9 => z_iload_n d_L_law_915 rfl rfl k9) ?_
  refine qy (fun _ _ k9 => z_iconst d_L_law_916 (by decide) k9) ?_
  refine qy (fun _ _ k9 => z_iadd d_L_law_917 (by omega) k9) ?_
  refine qy (fun _ _ k9 => z_ild (i + 1) d_L_law_918 (xs_1 he) (by omega) (by omega) k9) ?_
  refine qy (fun _ _ k9 => z_aload_n d_L_law_919 rfl rfl k9) ?_
  refine qy (fun _ _ k9 => z_iload_n d_L_law_920 rfl rfl k9) ?_
  refine qy (fun _ _ k9 => z_iconst d_L_law_921 (by decide) k9) ?_
  refine qy (fun _ _ k9 => z_iadd d_L_law_922 (by omega) k9) ?_
  refine qy (fun _ _ k9 => z_ild (i + 2) d_L_law_923 (xs_1 he) (by omega) (by omega) k9) ?_
  refine qy (fun _ _ k9 => z_aload_n d_L_law_924 rfl rfl k9) ?_
  refine qy (fun _ _ k9 => z_iload_n d_L_law_925 rfl rfl k9) ?_
  refine qy (fun _ _ k9 => z_iconst d_L_law_926 (by decide) k9) ?_
  refine qy (fun _ _ k9 => z_iadd d_L_law_927 (by omega) k9) ?_
  refine qy (fun _ _ k9 => z_ild (i + 3) d_L_law_928 (xs_1 he) (by omega) (by omega) k9) ?_
  refine qy (fun _ _ k9 => z_cv (M1 := M_X11_ring) d_L_law_929 lv_L_97 k_X11_ring [qI (S (i + 1)), qI (S (i + 2)), qI (S (i + 3))] rfl rfl (xput_ob (c := F 2) xi_2 rfl (xsh_11 xo_2)) ⟨_, _, rfl⟩ (Nat.le_of_ble_eq_true rfl) (by decide) (by decide) (Nat.le_of_ble_eq_true rfl) k1 k9) ?_
  refine qy (fun _ _ k9 => z_eq rfl rfl xput_rput k9) ?_
  refine qy (fun _ _ k9 => z_aload_n d_L_law_932 rfl rfl k9) ?_
  refine qy (fun _ _ k9 => z_aload_n d_L_law_933 rfl rfl k9) ?_
  refine qy (fun _ _ k9 => z_iload_n d_L_law_934 rfl rfl k9) ?_
  refine qy (fun _ _ k9 => z_iconst d_L_law_935 (by decide) k9) ?_
  refine qy (fun _ _ k9 => z_iadd d_L_law_936 (by omega) k9) ?_
  refine qy (fun _ _ k9 => z_ild (i + 1) d_L_law_937 (xr_1 he) (by omega) (by omega) k9) ?_
  refine qy (fun _ _ k9 => z_aload_n d_L_law_938 rfl rfl k9) ?_
  refine qy (fun _ _ k9 => z_iload_n d_L_law_939 rfl rfl k9) ?_
  refine qy (fun _ _ k9 => z_iconst d_L_law_940 (by decide) k9) ?_
  refine qy (fun _ _ k9 => z_iadd d_L_law_941 (by omega) k9) ?_
  refine qy (fun _ _ k9 => z_ild (i + 2) d_L_law_942 (xr_1 he) (by omega) (by omega) k9) ?_
  refine qy (fun _ _ k9 => z_aload_n d_L_law_943 rfl rfl k9) ?_
  refine qy (fun _ _ k9 => z_iload_n d_L_law_944 rfl rfl k9) ?_
  refine qy (fun _ _ k9 => z_iconst d_L_law_945 (by decide) k9) ?_
  refine qy (fun _ _ k9 => z_iadd d_L_law_946 (by omega) k9) ?_
  refine qy (fun _ _ k9 => z_ild (i + 3) d_L_law_947 (xr_1 he) (by omega) (by omega) k9) ?_
  refine qy (fun _ _ k9 => z_cv (M1 := M_X12_ring) d_L_law_948 lv_L_100 k_X12_ring [qI (S (i + 1)), qI (S (i + 2)), qI (S (i + 3))] rfl rfl rput_o ⟨_, _, rfl⟩ (Nat.le_of_ble_eq_true rfl) (by decide) (by decide) (Nat.le_of_ble_eq_true rfl) k2 k9) ?_
  refine qy (fun _ _ k9 => z_eq rfl rfl xput_rput.symm k9) ?_
  refine qy2 (fun _ _ => z_icmp_eq 1751 d_L_law_951 (by decide)) (fun _ => kk F' G' f' g' hR') (fun q => absurd rfl q)
set_option maxRecDepth 20000 in
theorem lw_20 {n i : Nat} {S : Nat → Int} {h : qH} {F G : Nat → Nat → Int} {f : Nat → Int} {g : Nat → Nat → Int} {Q : Option qA → qH → Prop} (he : h.2.2 1 = qAr 0 n S) (hn : n ≤ 1000000) (hi : i + 6 ≤ n) (hS : ∀ j, R32 (S j)) (hq : R32 (F 172 4)) (hR : Rel F G f g) (kk : ∀ F' G' f' g', Rel F' G' f' g' → qEy M_L_law 1751 [qR 1, qR 2, qR 220, qI (i : Int)] [] (xput (rput h 220 f' g') F' G') Q) : qEy M_L_law 956 [qR 1, qR 2, qR 220, qI (i : Int)] [] (xput (rput h 220 f g) F G) Q := by
  obtain ⟨v, F', G', f', g', hR', k1, k2⟩ := st_trees (S (i + 1)) h F G f g hR
  refine qy (fun _ _ k9 => z_aload_n d_L_law_956 rfl rfl k9) ?_
  refine qy (fun _ _ k9 => z_aload_n d_L_law_957 rfl rfl k9) ?_
  refine qy (fun _ _ k9 => z_iload_n d_L_law_958 rfl rfl k9) ?_
  refine qy (fun _ _ k9 => z_iconst d_L_law_959 (by decide) k9) ?_
  refine qy (fun _ _ k9 => z_iadd d_L_law_960 (by omega) k9) ?_
  refine qy (fun _ _ k9 => z_ild (i + 1) d_L_law_961 (xs_1 he) (by omega) (by omega) k9) ?_
  refine qy (fun _ _ k9 => z_cv (M1 := M_X11_trees) d_L_law_962 lv_L_101 k_X11_trees [qI (S (i + 1))] rfl rfl (xput_ob (c := F 2) xi_2 rfl (xsh_11 xo_2)) ⟨_, _, rfl⟩ (Nat.le_of_ble_eq_true rfl) (by decide) (by decide) (Nat.le_of_ble_eq_true rfl) k1 k9) ?_
  refine qy (fun _ _ k9 => z_eq rfl rfl xput_rput k9) ?_
  refine qy (fun _ _ k9 => z_aload_n d_L_law_965 rfl rfl k9) ?_
  refine qy (fun _ _ k9 => z_aload_n d_L_law_966 rfl rfl k9) ?_
  refine qy (fun _ _ k9 => z_iload_n d_L_law_967 rfl rfl k9) ?_
  refine qy (fun _ _ k9 => z_iconst d_L_law_968 (by decide) k9) ?_
  refine qy (fun _ _ k9 => z_iadd d_L_law_969 (by omega) k9) ?_
  refine qy (fun _ _ k9 => z_ild (i + 1) d_L_law_970 (xr_1 he) (by omega) (by omega) k9) ?_
  refine qy (fun _ _ k9 => z_cv (M1 := M_X12_trees) d_L_law_971 lv_L_104 k_X12_trees [qI (S (i + 1))] rfl rfl rput_o ⟨_, _, rfl⟩ (Nat.le_of_ble_eq_true rfl) (by decide) (by decide) (Nat.le_of_ble_eq_true rfl) k2 k9) ?_
  refine qy (fun _ _ k9 => z_eq rfl rfl xput_rput.symm k9) ?_
  refine qy2 (fun _ _ => z_icmp_eq 1751 d_L_law_974 (by decide)) (fun _ => kk F' G' f' g' hR') (fun q => absurd rfl q)
set_option maxRecDepth 20000 in
theorem lw_21 {n i : Nat} {S : Nat → Int} {h : qH} {F G : Nat → Nat → Int} {f : Nat → Int} {g : Nat → Nat → Int} {Q : Option qA → qH → Prop} (he : h.2.2 1 = qAr 0 n S) (hn : n ≤ 1000000) (hi : i + 6 ≤ n) (hS : ∀ j, R32 (S j)) (hq : R32 (F 172 4)) (hR : Rel F G f g) (kk : ∀ F' G' f' g', Rel F' G' f' g' → qEy M_L_law 1751 [qR 1, qR 2, qR 220, qI (i : Int)] [] (xput (rput h 220 f' g') F' G') Q) : qEy M_L_law 979 [qR 1, qR 2, qR 220, qI (i : Int)] [] (xput (rput h 220 f g) F G) Q := by
  obtain ⟨v, F', G', f', g', hR', k1, k2⟩ := st_keeps  h F G f g hR
  refine qy (fun _ _ k9 => z_aload_n d_L_law_979 rfl rfl k9) ?_
  refine qy (fun _ _ k9 => z_cv (M1 := M_X11_keeps) d_L_law_980 lv_L_105 k_X11_keeps [] rfl rfl (xput_ob (c := F 2) xi_2 rfl (xsh_11 xo_2)) ⟨_, _, rfl⟩ (Nat.le_of_ble_eq_true rfl) (by decide) (by decide) (Nat.le_of_ble_eq_true rfl) k1 k9) ?_
  refine qy (fun _ _ k9 => z_eq rfl rfl xput_rput k9) ?_
  refine qy (fun _ _ k9 => z_aload_n d_L_law_983 rfl rfl k9) ?_
  refine qy (fun _ _ k9 => z_cv (M1 := M_X12_keeps) d_L_law_984 lv_L_109 k_X12_keeps [] rfl rfl rput_o ⟨_, _, rfl⟩ (Nat.le_of_ble_eq_true rfl) (by decide) (by decide) (Nat.le_of_ble_eq_true rfl) k2 k9) ?_
  refine qy (fun _ _ k9 => z_eq rfl rfl xput_rput.symm k9) ?_
  refine qy2 (fun _ _ => z_icmp_eq 1751 d_L_law_987 (by decide)) (fun _ => kk F' G' f' g' hR') (fun q => absurd rfl q)
set_option maxRecDepth 20000 in
theorem lw_22 {n i : Nat} {S : Nat → Int} {h : qH} {F G : Nat → Nat → Int} {f : Nat → Int} {g : Nat → Nat → Int} {Q : Option qA → qH → Prop} (he : h.2.2 1 = qAr 0 n S) (hn : n ≤ 1000000) (hi : i + 6 ≤ n) (hS : ∀ j, R32 (S j)) (hq : R32 (F 172 4)) (hR : Rel F G f g) (kk : ∀ F' G' f' g', Rel F' G' f' g' → qEy M_L_law 1751 [qR 1, qR 2, qR 220, qI (i : Int)] [] (xput (rput h 220 f' g') F' G') Q) : qEy M_L_law 992 [qR 1, qR 2, qR 220, qI (i : Int)] [] (xput (rput h 220 f g) F G) Q := by
  obtain ⟨v, F', G', f', g', hR', k1, k2⟩ := st_alike (S (i + 1)) (S (i + 2)) h F G f g hR
  refine qy (fun _ _ k9 => z_aload_n d_L_law_992 rfl rfl k9) ?_
  refine qy (fun _ _ k9 => z_aload_n d_L_law_993 rfl rfl k9) ?_
  refine qy (fun _ _ k9 => z_iload_n d_L_law_994 rfl rfl k9) ?_
  refine qy (fun _ _ k9 => z_iconst d_L_law_995 (by decide) k9) ?_
  refine qy (fun _ _ k9 => z_iadd d_L_law_996 (by omega) k9) ?_
  refine qy (fun _ _ k9 => z_ild (i + 1) d_L_law_997 (xs_1 he) (by omega) (by omega) k9) ?_
  refine qy (fun _ _ k9 => z_aload_n d_L_law_998 rfl rfl k9) ?_
  refine qy (fun _ _ k9 => z_iload_n d_L_law_999 rfl rfl k9) ?_
  refine qy (fun _ _ k9 => z_iconst d_L_law_1000 (by decide) k9) ?_
  refine qy (fun _ _ k9 => z_iadd d_L_law_1001 (by omega) k9) ?_
  refine qy (fun _ _ k9 => z_ild (i + 2) d_L_law_1002 (xs_1 he) (by omega) (by omega) k9) ?_
  refine qy (fun _ _ k9 => z_cv (M1 := M_X11_alike) d_L_law_1003 lv_L_110 k_X11_alike [qI (S (i + 1)), qI (S (i + 2))] rfl rfl (xput_ob (c := F 2) xi_2 rfl (xsh_11 xo_2)) ⟨_, _, rfl⟩ (Nat.le_of_ble_eq_true rfl) (by decide) (by decide) (Nat.le_of_ble_eq_true rfl) k1 k9) ?_
  refine qy (fun _ _ k9 => z_eq rfl rfl xput_rput k9) ?_
  refine qy (fun _ _ k9 => z_aload_n d_L_law_1006 rfl rfl k9) ?_
  refine qy (fun _ _ k9 => z_aload_n d_L_law_1007 rfl rfl k9) ?_
  refine qy (fun _ _ k9 => z_iload_n d_L_law_1008 rfl rfl k9) ?_
  refine qy (fun _ _ k9 => z_iconst d_L_law_1009 (by decide) k9) ?_
  refine qy (fun _ _ k9 => z_iadd d_L_law_1010 (by omega) k9) ?_
  refine qy (fun _ _ k9 => z_ild (i + 1) d_L_law_1011 (xr_1 he) (by omega) (by omega) k9) ?_
  refine qy (fun _ _ k9 => z_aload_n d_L_law_1012 rfl rfl k9) ?_
  refine qy (fun _ _ k9 => z_iload_n d_L_law_1013 rfl rfl k9) ?_
  refine qy (fun _ _ k9 => z_iconst d_L_law_1014 (by decide) k9) ?_
  refine qy (fun _ _ k9 => z_iadd d_L_law_1015 (by omega) k9) ?_
  refine qy (fun _ _ k9 => z_ild (i + 2) d_L_law_1016 (xr_1 he) (by omega) (by omega) k9) ?_
  refine qy (fun _ _ k9 => z_cv (M1 := M_X12_alike) d_L_law_1017 lv_L_113 k_X12_alike [qI (S (i + 1)), qI (S (i + 2))] rfl rfl rput_o ⟨_, _, rfl⟩ (Nat.le_of_ble_eq_true rfl) (by decide) (by decide) (Nat.le_of_ble_eq_true rfl) k2 k9) ?_
  refine qy (fun _ _ k9 => z_eq rfl rfl xput_rput.symm k9) ?_
  refine qy2 (fun _ _ => z_icmp_eq 1751 d_L_law_1020 (by decide)) (fun _ => kk F' G' f' g' hR') (fun q => absurd rfl q)
set_option maxRecDepth 20000 in
theorem lw_23 {n i : Nat} {S : Nat → Int} {h : qH} {F G : Nat → Nat → Int} {f : Nat → Int} {g : Nat → Nat → Int} {Q : Option qA → qH → Prop} (he : h.2.2 1 = qAr 0 n S) (hn : n ≤ 1000000) (hi : i + 6 ≤ n) (hS : ∀ j, R32 (S j)) (hq : R32 (F 172 4)) (hR : Rel F G f g) (kk : ∀ F' G' f' g', Rel F' G' f' g' → qEy M_L_law 1751 [qR 1, qR 2, qR 220, qI (i : Int)] [] (xput (rput h 220 f' g') F' G') Q) : qEy M_L_law 1025 [qR 1, qR 2, qR 220, qI (i : Int)] [] (xput (rput h 220 f g) F G) Q := by
  obtain ⟨v, F', G', f', g', hR', k1, k2⟩ := st_picture (S (i + 1)) (S (i + 2)) (S (i + 3)) (S (i + 4)) (hS _) h F G f g hR
  refine qy (fun _ _ k9 => z_aload_n d_L_law_1025 rfl rfl k9) ?_
  refine qy (fun _ _ k9 => z_aload_n d_L_law_1026 rfl rfl k9) ?_
  refine qy (fun _ _ k9 => z_iload_n d_L_law_1027 rfl rfl k9) ?_
  refine qy (fun _ _ k9 => z_iconst d_L_law_1028 (by decide) k9) ?_
  refine qy (fun _ _ k9 => z_iadd d_L_law_1029 (by omega) k9) ?_
  refine qy (fun _ _ k9 => z_ild (i + 1) d_L_law_1030 (xs_1 he) (by omega) (by omega) k9) ?_
  refine qy (fun _ _ k9 => z_aload_n d_L_law_1031 rfl rfl k9) ?_
  refine qy (fun _ _ k9 => z_iload_n d_L_law_1032 rfl rfl k9) ?_
  refine qy (fun _ _ k9 => z_iconst d_L_law_1033 (by decide) k9) ?_
  refine qy (fun _ _ k9 => z_iadd d_L_law_1034 (by omega) k9) ?_
  refine qy (fun _ _ k9 => z_ild (i + 2) d_L_law_1035 (xs_1 he) (by omega) (by omega) k9) ?_
  refine qy (fun _ _ k9 => z_aload_n d_L_law_1036 rfl rfl k9) ?_
  refine qy (fun _ _ k9 => z_iload_n d_L_law_1037 rfl rfl k9) ?_
  refine qy (fun _ _ k9 => z_iconst d_L_law_1038 (by decide) k9) ?_
  refine qy (fun _ _ k9 => z_iadd d_L_law_1039 (by omega) k9) ?_
  refine qy (fun _ _ k9 => z_ild (i + 3) d_L_law_1040 (xs_1 he) (by omega) (by omega) k9) ?_
  refine qy (fun _ _ k9 => z_aload_n d_L_law_1041 rfl rfl k9) ?_
  refine qy (fun _ _ k9 => z_iload_n d_L_law_1042 rfl rfl k9) ?_
  refine qy (fun _ _ k9 => z_iconst d_L_law_1043 (by decide) k9) ?_
  refine qy (fun _ _ k9 => z_iadd d_L_law_1044 (by omega) k9) ?_
  refine qy (fun _ _ k9 => z_ild (i + 4) d_L_law_1045 (xs_1 he) (by omega) (by omega) k9) ?_
  refine qy (fun _ _ k9 => z_cv (M1 := M_X11_picture) d_L_law_1046 lv_L_114 k_X11_picture [qI (S (i + 1)), qI (S (i + 2)), qI (S (i + 3)), qI (S (i + 4))] rfl rfl (xput_ob (c := F 2) xi_2 rfl (xsh_11 xo_2)) ⟨_, _, rfl⟩ (Nat.le_of_ble_eq_true rfl) (by decide) (by decide) (Nat.le_of_ble_eq_true rfl) k1 k9) ?_
  refine qy (fun _ _ k9 => z_eq rfl rfl xput_rput k9) ?_
  refine qy (fun _ _ k9 => z_aload_n d_L_law_1049 rfl rfl k9) ?_
  refine qy (fun _ _ k9 => z_aload_n d_L_law_1050 rfl rfl k9) ?_
  refine qy (fun _ _ k9 => z_iload_n d_L_law_1051 rfl rfl k9) ?_
  refine qy (fun _ _ k9 => z_iconst d_L_law_1052 (by decide) k9) ?_
  refine qy (fun _ _ k9 => z_iadd d_L_law_1053 (by omega) k9) ?_
  refine qy (fun _ _ k9 => z_ild (i + 1) d_L_law_1054 (xr_1 he) (by omega) (by omega) k9) ?_
  refine qy (fun _ _ k9 => z_aload_n d_L_law_1055 rfl rfl k9) ?_
  refine qy (fun _ _ k9 => z_iload_n d_L_law_1056 rfl rfl k9) ?_
  refine qy (fun _ _ k9 => z_iconst d_L_law_1057 (by decide) k9) ?_
  refine qy (fun _ _ k9 => z_iadd d_L_law_1058 (by omega) k9) ?_
  refine qy (fun _ _ k9 => z_ild (i + 2) d_L_law_1059 (xr_1 he) (by omega) (by omega) k9) ?_
  refine qy (fun _ _ k9 => z_aload_n d_L_law_1060 rfl rfl k9) ?_
  refine qy (fun _ _ k9 => z_iload_n d_L_law_1061 rfl rfl k9) ?_
  refine qy (fun _ _ k9 => z_iconst d_L_law_1062 (by decide) k9) ?_
  refine qy (fun _ _ k9 => z_iadd d_L_law_1063 (by omega) k9) ?_
  refine qy (fun _ _ k9 => z_ild (i + 3) d_L_law_1064 (xr_1 he) (by omega) (by omega) k9) ?_
  refine qy (fun _ _ k9 => z_aload_n d_L_law_1065 rfl rfl k9) ?_
  refine qy (fun _ _ k9 => z_iload_n d_L_law_1066 rfl rfl k9) ?_
  refine qy (fun _ _ k9 => z_iconst d_L_law_1067 (by decide) k9) ?_
  refine qy (fun _ _ k9 => z_iadd d_L_law_1068 (by omega) k9) ?_
  refine qy (fun _ _ k9 => z_ild (i + 4) d_L_law_1069 (xr_1 he) (by omega) (by omega) k9) ?_
  refine qy (fun _ _ k9 => z_cv (M1 := M_X12_picture) d_L_law_1070 lv_L_117 k_X12_picture [qI (S (i + 1)), qI (S (i + 2)), qI (S (i + 3)), qI (S (i + 4))] rfl rfl rput_o ⟨_, _, rfl⟩ (Nat.le_of_ble_eq_true rfl) (by decide) (by decide) (Nat.le_of_ble_eq_true rfl) k2 k9) ?_
  refine qy (fun _ _ k9 => z_eq rfl rfl xput_rput.symm k9) ?_
  refine qy2 (fun _ _ => z_icmp_eq 1751 d_L_law_1073 (by decide)) (fun _ => kk F' G' f' g' hR') (fun q => absurd rfl q)
set_option maxRecDepth 20000 in
theorem lw_24 {n i : Nat} {S : Nat → Int} {h : qH} {F G : Nat → Nat → Int} {f : Nat → Int} {g : Nat → Nat → Int} {Q : Option qA → qH → Prop} (he : h.2.2 1 = qAr 0 n S) (hn : n ≤ 1000000) (hi : i + 6 ≤ n) (hS : ∀ j, R32 (S j)) (hq : R32 (F 172 4)) (hR : Rel F G f g) (kk : ∀ F' G' f' g', Rel F' G' f' g' → qEy M_L_law 1751 [qR 1, qR 2, qR 220, qI (i : Int)] [] (xput (rput h 220 f' g') F' G') Q) : qEy M_L_law 1078 [qR 1, qR 2, qR 220, qI (i : Int)] [] (xput (rput h 220 f g) F G) Q := by
  obtain ⟨v, F', G', f', g', hR', k1, k2⟩ := st_mark (S (i + 1)) (S (i + 2)) (S (i + 3)) (S (i + 4)) (hS _) h F G f g hR
  refine qy (fun _ _ k9 => z_aload_n d_L_law_1078 rfl rfl k9) ?_
  refine qy (fun _ _ k9 => z_aload_n d_L_law_1079 rfl rfl k9) ?_
  refine qy (fun _ _ k9 => z_iload_n d_L_law_1080 rfl rfl k9) ?_
  refine qy (fun _ _ k9 => z_iconst d_L_law_1081 (by decide) k9) ?_
  refine qy (fun _ _ k9 => z_iadd d_L_law_1082 (by omega) k9) ?_
  refine qy (fun _ _ k9 => z_ild (i + 1) d_L_law_1083 (xs_1 he) (by omega) (by omega) k9) ?_
  refine qy (fun _ _ k9 => z_aload_n d_L_law_1084 rfl rfl k9) ?_
  refine qy (fun _ _ k9 => z_iload_n d_L_law_1085 rfl rfl k9) ?_
  refine qy (fun _ _ k9 => z_iconst d_L_law_1086 (by decide) k9) ?_
  refine qy (fun _ _ k9 => z_iadd d_L_law_1087 (by omega) k9) ?_
  refine qy (fun _ _ k9 => z_ild (i + 2) d_L_law_1088 (xs_1 he) (by omega) (by omega) k9) ?_
  refine qy (fun _ _ k9 => z_aload_n d_L_law_1089 rfl rfl k9) ?_
  refine qy (fun _ _ k9 => z_iload_n d_L_law_1090 rfl rfl k9) ?_
  refine qy (fun _ _ k9 => z_iconst d_L_law_1091 (by decide) k9) ?_
  refine qy (fun _ _ k9 => z_iadd d_L_law_1092 (by omega) k9) ?_
  refine qy (fun _ _ k9 => z_ild (i + 3) d_L_law_1093 (xs_1 he) (by omega) (by omega) k9) ?_
  refine qy (fun _ _ k9 => z_aload_n d_L_law_1094 rfl rfl k9) ?_
  refine qy (fun _ _ k9 => z_iload_n d_L_law_1095 rfl rfl k9) ?_
  refine qy (fun _ _ k9 => z_iconst d_L_law_1096 (by decide) k9) ?_
  refine qy (fun _ _ k9 => z_iadd d_L_law_1097 (by omega) k9) ?_
  refine qy (fun _ _ k9 => z_ild (i + 4) d_L_law_1098 (xs_1 he) (by omega) (by omega) k9) ?_
  refine qy (fun _ _ k9 => z_cv (M1 := M_X11_mark) d_L_law_1099 lv_L_118 k_X11_mark [qI (S (i + 1)), qI (S (i + 2)), qI (S (i + 3)), qI (S (i + 4))] rfl rfl (xput_ob (c := F 2) xi_2 rfl (xsh_11 xo_2)) ⟨_, _, rfl⟩ (Nat.le_of_ble_eq_true rfl) (by decide) (by decide) (Nat.le_of_ble_eq_true rfl) k1 k9) ?_
  refine qy (fun _ _ k9 => z_eq rfl rfl xput_rput k9) ?_
  refine qy (fun _ _ k9 => z_aload_n d_L_law_1102 rfl rfl k9) ?_
  refine qy (fun _ _ k9 => z_aload_n d_L_law_1103 rfl rfl k9) ?_
  refine qy (fun _ _ k9 => z_iload_n d_L_law_1104 rfl rfl k9) ?_
  refine qy (fun _ _ k9 => z_iconst d_L_law_1105 (by decide) k9) ?_
  refine qy (fun _ _ k9 => z_iadd d_L_law_1106 (by omega) k9) ?_
  refine qy (fun _ _ k9 => z_ild (i + 1) d_L_law_1107 (xr_1 he) (by omega) (by omega) k9) ?_
  refine qy (fun _ _ k9 => z_aload_n d_L_law_1108 rfl rfl k9) ?_
  refine qy (fun _ _ k9 => z_iload_n d_L_law_1109 rfl rfl k9) ?_
  refine qy (fun _ _ k9 => z_iconst d_L_law_1110 (by decide) k9) ?_
  refine qy (fun _ _ k9 => z_iadd d_L_law_1111 (by omega) k9) ?_
  refine qy (fun _ _ k9 => z_ild (i + 2) d_L_law_1112 (xr_1 he) (by omega) (by omega) k9) ?_
  refine qy (fun _ _ k9 => z_aload_n d_L_law_1113 rfl rfl k9) ?_
  refine qy (fun _ _ k9 => z_iload_n d_L_law_1114 rfl rfl k9) ?_
  refine qy (fun _ _ k9 => z_iconst d_L_law_1115 (by decide) k9) ?_
  refine qy (fun _ _ k9 => z_iadd d_L_law_1116 (by omega) k9) ?_
  refine qy (fun _ _ k9 => z_ild (i + 3) d_L_law_1117 (xr_1 he) (by omega) (by omega) k9) ?_
  refine qy (fun _ _ k9 => z_aload_n d_L_law_1118 rfl rfl k9) ?_
  refine qy (fun _ _ k9 => z_iload_n d_L_law_1119 rfl rfl k9) ?_
  refine qy (fun _ _ k9 => z_iconst d_L_law_1120 (by decide) k9) ?_
  refine qy (fun _ _ k9 => z_iadd d_L_law_1121 (by omega) k9) ?_
  refine qy (fun _ _ k9 => z_ild (i + 4) d_L_law_1122 (xr_1 he) (by omega) (by omega) k9) ?_
  refine qy (fun _ _ k9 => z_cv (M1 := M_X12_mark) d_L_law_1123 lv_L_121 k_X12_mark [qI (S (i + 1)), qI (S (i + 2)), qI (S (i + 3)), qI (S (i + 4))] rfl rfl rput_o ⟨_, _, rfl⟩ (Nat.le_of_ble_eq_true rfl) (by decide) (by decide) (Nat.le_of_ble_eq_true rfl) k2 k9) ?_
  refine qy (fun _ _ k9 => z_eq rfl rfl xput_rput.symm k9) ?_
  refine qy2 (fun _ _ => z_icmp_eq 1751 d_L_law_1126 (by decide)) (fun _ => kk F' G' f' g' hR') (fun q => absurd rfl q)
set_option maxRecDepth 20000 in
theorem lw_25 {n i : Nat} {S : Nat → Int} {h : qH} {F G : Nat → Nat → Int} {f : Nat → Int} {g : Nat → Nat → Int} {Q : Option qA → qH → Prop} (he : h.2.2 1 = qAr 0 n S) (hn : n ≤ 1000000) (hi : i + 6 ≤ n) (hS : ∀ j, R32 (S j)) (hq : R32 (F 172 4)) (hR : Rel F G f g) (kk : ∀ F' G' f' g', Rel F' G' f' g' → qEy M_L_law 1751 [qR 1, qR 2, qR 220, qI (i : Int)] [] (xput (rput h 220 f' g') F' G') Q) : qEy M_L_law 1131 [qR 1, qR 2, qR 220, qI (i : Int)] [] (xput (rput h 220 f g) F G) Q := by
  obtain ⟨v, F', G', f', g', hR', k1, k2⟩ := st_before  h F G f g hR
  refine qy (fun _ _ k9 => z_aload_n d_L_law_1131 rfl rfl k9) ?_
  refine qy (fun _ _ k9 => z_cv (M1 := M_X11_before) d_L_law_1132 lv_L_122 k_X11_before [] rfl rfl (xput_ob (c := F 2) xi_2 rfl (xsh_11 xo_2)) ⟨_, _, rfl⟩ (Nat.le_of_ble_eq_true rfl) (by decide) (by decide) (Nat.le_of_ble_eq_true rfl) k1 k9) ?_
  refine qy (fun _ _ k9 => z_eq rfl rfl xput_rput k9) ?_
  refine qy (fun _ _ k9 => z_aload_n d_L_law_1135 rfl rfl k9) ?_
  refine qy (fun _ _ k9 => z_cv (M1 := M_X12_before) d_L_law_1136 lv_L_125 k_X12_before [] rfl rfl rput_o ⟨_, _, rfl⟩ (Nat.le_of_ble_eq_true rfl) (by decide) (by decide) (Nat.le_of_ble_eq_true rfl) k2 k9) ?_
  refine qy (fun _ _ k9 => z_eq rfl rfl xput_rput.symm k9) ?_
  refine qy2 (fun _ _ => z_icmp_eq 1751 d_L_law_1139 (by decide)) (fun _ => kk F' G' f' g' hR') (fun q => absurd rfl q)
set_option maxRecDepth 20000 in
theorem lw_26 {n i : Nat} {S : Nat → Int} {h : qH} {F G : Nat → Nat → Int} {f : Nat → Int} {g : Nat → Nat → Int} {Q : Option qA → qH → Prop} (he : h.2.2 1 = qAr 0 n S) (hn : n ≤ 1000000) (hi : i + 6 ≤ n) (hS : ∀ j, R32 (S j)) (hq : R32 (F 172 4)) (hR : Rel F G f g) (kk : ∀ F' G' f' g', Rel F' G' f' g' → qEy M_L_law 1751 [qR 1, qR 2, qR 220, qI (i : Int)] [] (xput (rput h 220 f' g') F' G') Q) : qEy M_L_law 1144 [qR 1, qR 2, qR 220, qI (i : Int)] [] (xput (rput h 220 f g) F G) Q := by
  obtain ⟨v, F', G', f', g', hR', k1, k2⟩ := st_round (S (i + 1)) h F G f g hR
  refine qy (fun _ _ k9 => z_aload_n d_L_law_1144 rfl rfl k9) ?_
  refine qy (fun _ _ k9 => z_aload_n d_L_law_1145 rfl rfl k9) ?_
  refine qy (fun _ _ k9 => z_iload_n d_L_law_1146 rfl rfl k9) ?_
  refine qy (fun _ _ k9 => z_iconst d_L_law_1147 (by decide) k9) ?_
  refine qy (fun _ _ k9 => z_iadd d_L_law_1148 (by omega) k9) ?_
  refine qy (fun _ _ k9 => z_ild (i + 1) d_L_law_1149 (xs_1 he) (by omega) (by omega) k9) ?_
  refine qy (fun _ _ k9 => z_cv (M1 := M_X11_round) d_L_law_1150 lv_L_126 k_X11_round [qI (S (i + 1))] rfl rfl (xput_ob (c := F 2) xi_2 rfl (xsh_11 xo_2)) ⟨_, _, rfl⟩ (Nat.le_of_ble_eq_true rfl) (by decide) (by decide) (Nat.le_of_ble_eq_true rfl) k1 k9) ?_
  refine qy (fun _ _ k9 => z_eq rfl rfl xput_rput k9) ?_
  refine qy (fun _ _ k9 => z_aload_n d_L_law_1153 rfl rfl k9) ?_
  refine qy (fun _ _ k9 => z_aload_n d_L_law_1154 rfl rfl k9) ?_
  refine qy (fun _ _ k9 => z_iload_n d_L_law_1155 rfl rfl k9) ?_
  refine qy (fun _ _ k9 => z_iconst d_L_law_1156 (by decide) k9) ?_
  refine qy (fun _ _ k9 => z_iadd d_L_law_1157 (by omega) k9) ?_
  refine qy (fun _ _ k9 => z_ild (i + 1) d_L_law_1158 (xr_1 he) (by omega) (by omega) k9) ?_
  refine qy (fun _ _ k9 => z_cv (M1 := M_X12_round) d_L_law_1159 lv_L_129 k_X12_round [qI (S (i + 1))] rfl rfl rput_o ⟨_, _, rfl⟩ (Nat.le_of_ble_eq_true rfl) (by decide) (by decide) (Nat.le_of_ble_eq_true rfl) k2 k9) ?_
  refine qy (fun _ _ k9 => z_eq rfl rfl xput_rput.symm k9) ?_
  refine qy2 (fun _ _ => z_icmp_eq 1751 d_L_law_1162 (by decide)) (fun _ => kk F' G' f' g' hR') (fun q => absurd rfl q)
set_option maxRecDepth 20000 in
theorem lw_27 {n i : Nat} {S : Nat → Int} {h : qH} {F G : Nat → Nat → Int} {f : Nat → Int} {g : Nat → Nat → Int} {Q : Option qA → qH → Prop} (he : h.2.2 1 = qAr 0 n S) (hn : n ≤ 1000000) (hi : i + 6 ≤ n) (hS : ∀ j, R32 (S j)) (hq : R32 (F 172 4)) (hR : Rel F G f g) (kk : ∀ F' G' f' g', Rel F' G' f' g' → qEy M_L_law 1751 [qR 1, qR 2, qR 220, qI (i : Int)] [] (xput (rput h 220 f' g') F' G') Q) : qEy M_L_law 1167 [qR 1, qR 2, qR 220, qI (i : Int)] [] (xput (rput h 220 f g) F G) Q := by
  obtain ⟨v, F', G', f', g', hR', k1, k2⟩ := st_heard (S (i + 1)) (S (i + 2)) (S (i + 3)) h F G f g hR
  refine qy (fun _ _ k9 => z_aload_n d_L_law_1167 rfl rfl k9) ?_
  refine qy (fun _ _ k9 => z_aload_n d_L_law_1168 rfl rfl k9) ?_
  refine qy (fun _ _ k9 => z_iload_n d_L_law_1169 rfl rfl k9) ?_
  refine qy (fun _ _ k9 => z_iconst d_L_law_1170 (by decide) k9) ?_
  refine qy (fun _ _ k9 => z_iadd d_L_law_1171 (by omega) k9) ?_
  refine qy (fun _ _ k9 => z_ild (i + 1) d_L_law_1172 (xs_1 he) (by omega) (by omega) k9) ?_
  refine qy (fun _ _ k9 => z_aload_n d_L_law_1173 rfl rfl k9) ?_
  refine qy (fun _ _ k9 => z_iload_n d_L_law_1174 rfl rfl k9) ?_
  refine qy (fun _ _ k9 => z_iconst d_L_law_1175 (by decide) k9) ?_
  refine qy (fun _ _ k9 => z_iadd d_L_law_1176 (by omega) k9) ?_
  refine qy (fun _ _ k9 => z_ild (i + 2) d_L_law_1177 (xs_1 he) (by omega) (by omega) k9) ?_
  refine qy (fun _ _ k9 => z_aload_n d_L_law_1178 rfl rfl k9) ?_
  refine qy (fun _ _ k9 => z_iload_n d_L_law_1179 rfl rfl k9) ?_
  refine qy (fun _ _ k9 => z_iconst d_L_law_1180 (by decide) k9) ?_
  refine qy (fun _ _ k9 => z_iadd d_L_law_1181 (by omega) k9) ?_
  refine qy (fun _ _ k9 => z_ild (i + 3) d_L_law_1182 (xs_1 he) (by omega) (by omega) k9) ?_
  refine qy (fun _ _ k9 => z_cv (M1 := M_X11_heard) d_L_law_1183 lv_L_130 k_X11_heard [qI (S (i + 1)), qI (S (i + 2)), qI (S (i + 3))] rfl rfl (xput_ob (c := F 2) xi_2 rfl (xsh_11 xo_2)) ⟨_, _, rfl⟩ (Nat.le_of_ble_eq_true rfl) (by decide) (by decide) (Nat.le_of_ble_eq_true rfl) k1 k9) ?_
  refine qy (fun _ _ k9 => z_eq rfl rfl xput_rput k9) ?_
  refine qy (fun _ _ k9 => z_aload_n d_L_law_1186 rfl rfl k9) ?_
  refine qy (fun _ _ k9 => z_aload_n d_L_law_1187 rfl rfl k9) ?_
  refine qy (fun _ _ k9 => z_iload_n d_L_law_1188 rfl rfl k9) ?_
  refine qy (fun _ _ k9 => z_iconst d_L_law_1189 (by decide) k9) ?_
  refine qy (fun _ _ k9 => z_iadd d_L_law_1190 (by omega) k9) ?_
  refine qy (fun _ _ k9 => z_ild (i + 1) d_L_law_1191 (xr_1 he) (by omega) (by omega) k9) ?_
  refine qy (fun _ _ k9 => z_aload_n d_L_law_1192 rfl rfl k9) ?_
  refine qy (fun _ _ k9 => z_iload_n d_L_law_1193 rfl rfl k9) ?_
  refine qy (fun _ _ k9 => z_iconst d_L_law_1194 (by decide) k9) ?_
  refine qy (fun _ _ k9 => z_iadd d_L_law_1195 (by omega) k9) ?_
  refine qy (fun _ _ k9 => z_ild (i + 2) d_L_law_1196 (xr_1 he) (by omega) (by omega) k9) ?_
  refine qy (fun _ _ k9 => z_aload_n d_L_law_1197 rfl rfl k9) ?_
  refine qy (fun _ _ k9 => z_iload_n d_L_law_1198 rfl rfl k9) ?_
  refine qy (fun _ _ k9 => z_iconst d_L_law_1199 (by decide) k9) ?_
  refine qy (fun _ _ k9 => z_iadd d_L_law_1200 (by omega) k9) ?_
  refine qy (fun _ _ k9 => z_ild (i + 3) d_L_law_1201 (xr_1 he) (by omega) (by omega) k9) ?_
  refine qy (fun _ _ k9 => z_cv (M1 := M_X12_heard) d_L_law_1202 lv_L_133 k_X12_heard [qI (S (i + 1)), qI (S (i + 2)), qI (S (i + 3))] rfl rfl rput_o ⟨_, _, rfl⟩ (Nat.le_of_ble_eq_true rfl) (by decide) (by decide) (Nat.le_of_ble_eq_true rfl) k2 k9) ?_
  refine qy (fun _ _ k9 => z_eq rfl rfl xput_rput.symm k9) ?_
  refine qy2 (fun _ _ => z_icmp_eq 1751 d_L_law_1205 (by decide)) (fun _ => kk F' G' f' g' hR') (fun q => absurd rfl q)
set_option maxRecDepth 20000 in
theorem lw_28 {n i : Nat} {S : Nat → Int} {h : qH} {F G : Nat → Nat → Int} {f : Nat → Int} {g : Nat → Nat → Int} {Q : Option qA → qH → Prop} (he : h.2.2 1 = qAr 0 n S) (hn : n ≤ 1000000) (hi : i + 6 ≤ n) (hS : ∀ j, R32 (S j)) (hq : R32 (F 172 4)) (hR : Rel F G f g) (kk : ∀ F' G' f' g', Rel F' G' f' g' → qEy M_L_law 1751 [qR 1, qR 2, qR 220, qI (i : Int)] [] (xput (rput h 220 f' g') F' G') Q) : qEy M_L_law 1210 [qR 1, qR 2, qR 220, qI (i : Int)] [] (xput (rput h 220 f g) F G) Q := by
  obtain ⟨v, F', G', f', g', hR', k1, k2⟩ := st_enough (S (i + 1)) h F G f g hR
  refine qy (fun _ _ k9 => z_aload_n d_L_law_1210 rfl rfl k9) ?_
  refine qy (fun _ _ k9 => z_aload_n d_L_law_1211 rfl rfl k9) ?_
  refine qy (fun _ _ k9 => z_iload_n d_L_law_1212 rfl rfl k9) ?_
  refine qy (fun _ _ k9 => z_iconst d_L_law_1213 (by decide) k9) ?_
  refine qy (fun _ _ k9 => z_iadd d_L_law_1214 (by omega) k9) ?_
  refine qy (fun _ _ k9 => z_ild (i + 1) d_L_law_1215 (xs_1 he) (by omega) (by omega) k9) ?_
  refine qy (fun _ _ k9 => z_cv (M1 := M_X11_enough) d_L_law_1216 lv_L_134 k_X11_enough [qI (S (i + 1))] rfl rfl (xput_ob (c := F 2) xi_2 rfl (xsh_11 xo_2)) ⟨_, _, rfl⟩ (Nat.le_of_ble_eq_true rfl) (by decide) (by decide) (Nat.le_of_ble_eq_true rfl) k1 k9) ?_
  refine qy (fun _ _ k9 => z_eq rfl rfl xput_rput k9) ?_
  refine qy (fun _ _ k9 => z_aload_n d_L_law_1219 rfl rfl k9) ?_
  refine qy (fun _ _ k9 => z_aload_n d_L_law_1220 rfl rfl k9) ?_
  refine qy (fun _ _ k9 => z_iload_n d_L_law_1221 rfl rfl k9) ?_
  refine qy (fun _ _ k9 => z_iconst d_L_law_1222 (by decide) k9) ?_
  refine qy (fun _ _ k9 => z_iadd d_L_law_1223 (by omega) k9) ?_
  refine qy (fun _ _ k9 => z_ild (i + 1) d_L_law_1224 (xr_1 he) (by omega) (by omega) k9) ?_
  refine qy (fun _ _ k9 => z_cv (M1 := M_X12_enough) d_L_law_1225 lv_L_137 k_X12_enough [qI (S (i + 1))] rfl rfl rput_o ⟨_, _, rfl⟩ (Nat.le_of_ble_eq_true rfl) (by decide) (by decide) (Nat.le_of_ble_eq_true rfl) k2 k9) ?_
  refine qy (fun _ _ k9 => z_eq rfl rfl xput_rput.symm k9) ?_
  refine qy2 (fun _ _ => z_icmp_eq 1751 d_L_law_1228 (by decide)) (fun _ => kk F' G' f' g' hR') (fun q => absurd rfl q)
set_option maxRecDepth 20000 in
theorem lw_29 {n i : Nat} {S : Nat → Int} {h : qH} {F G : Nat → Nat → Int} {f : Nat → Int} {g : Nat → Nat → Int} {Q : Option qA → qH → Prop} (he : h.2.2 1 = qAr 0 n S) (hn : n ≤ 1000000) (hi : i + 6 ≤ n) (hS : ∀ j, R32 (S j)) (hq : R32 (F 172 4)) (hR : Rel F G f g) (kk : ∀ F' G' f' g', Rel F' G' f' g' → qEy M_L_law 1751 [qR 1, qR 2, qR 220, qI (i : Int)] [] (xput (rput h 220 f' g') F' G') Q) : qEy M_L_law 1233 [qR 1, qR 2, qR 220, qI (i : Int)] [] (xput (rput h 220 f g) F G) Q := by
  obtain ⟨v, F', G', f', g', hR', k1, k2⟩ := st_quiet (S (i + 1)) h F G f g hR
  refine qy (fun _ _ k9 => z_aload_n d_L_law_1233 rfl rfl k9) ?_
  refine qy (fun _ _ k9 => z_aload_n d_L_law_1234 rfl rfl k9) ?_
  refine qy (fun _ _ k9 => z_iload_n d_L_law_1235 rfl rfl k9) ?_
  refine qy (fun _ _ k9 => z_iconst d_L_law_1236 (by decide) k9) ?_
  refine qy (fun _ _ k9 => z_iadd d_L_law_1237 (by omega) k9) ?_
  refine qy (fun _ _ k9 => z_ild (i + 1) d_L_law_1238 (xs_1 he) (by omega) (by omega) k9) ?_
  refine qy (fun _ _ k9 => z_cv (M1 := M_X11_quiet) d_L_law_1239 lv_L_138 k_X11_quiet [qI (S (i + 1))] rfl rfl (xput_ob (c := F 2) xi_2 rfl (xsh_11 xo_2)) ⟨_, _, rfl⟩ (Nat.le_of_ble_eq_true rfl) (by decide) (by decide) (Nat.le_of_ble_eq_true rfl) k1 k9) ?_
  refine qy (fun _ _ k9 => z_eq rfl rfl xput_rput k9) ?_
  refine qy (fun _ _ k9 => z_aload_n d_L_law_1242 rfl rfl k9) ?_
  refine qy (fun _ _ k9 => z_aload_n d_L_law_1243 rfl rfl k9) ?_
  refine qy (fun _ _ k9 => z_iload_n d_L_law_1244 rfl rfl k9) ?_
  refine qy (fun _ _ k9 => z_iconst d_L_law_1245 (by decide) k9) ?_
  refine qy (fun _ _ k9 => z_iadd d_L_law_1246 (by omega) k9) ?_
  refine qy (fun _ _ k9 => z_ild (i + 1) d_L_law_1247 (xr_1 he) (by omega) (by omega) k9) ?_
  refine qy (fun _ _ k9 => z_cv (M1 := M_X12_quiet) d_L_law_1248 lv_L_141 k_X12_quiet [qI (S (i + 1))] rfl rfl rput_o ⟨_, _, rfl⟩ (Nat.le_of_ble_eq_true rfl) (by decide) (by decide) (Nat.le_of_ble_eq_true rfl) k2 k9) ?_
  refine qy (fun _ _ k9 => z_eq rfl rfl xput_rput.symm k9) ?_
  refine qy2 (fun _ _ => z_icmp_eq 1751 d_L_law_1251 (by decide)) (fun _ => kk F' G' f' g' hR') (fun q => absurd rfl q)
set_option maxRecDepth 20000 in
theorem lw_30 {n i : Nat} {S : Nat → Int} {h : qH} {F G : Nat → Nat → Int} {f : Nat → Int} {g : Nat → Nat → Int} {Q : Option qA → qH → Prop} (he : h.2.2 1 = qAr 0 n S) (hn : n ≤ 1000000) (hi : i + 6 ≤ n) (hS : ∀ j, R32 (S j)) (hq : R32 (F 172 4)) (hR : Rel F G f g) (kk : ∀ F' G' f' g', Rel F' G' f' g' → qEy M_L_law 1751 [qR 1, qR 2, qR 220, qI (i : Int)] [] (xput (rput h 220 f' g') F' G') Q) : qEy M_L_law 1256 [qR 1, qR 2, qR 220, qI (i : Int)] [] (xput (rput h 220 f g) F G) Q := by
  obtain ⟨v, F', G', f', g', hR', k1, k2⟩ := st_rules (S (i + 1)) h F G f g hR
  refine qy (fun _ _ k9 => z_aload_n d_L_law_1256 rfl rfl k9) ?_
  refine qy (fun _ _ k9 => z_aload_n d_L_law_1257 rfl rfl k9) ?_
  refine qy (fun _ _ k9 => z_iload_n d_L_law_1258 rfl rfl k9) ?_
  refine qy (fun _ _ k9 => z_iconst d_L_law_1259 (by decide) k9) ?_
  refine qy (fun _ _ k9 => z_iadd d_L_law_1260 (by omega) k9) ?_
  refine qy (fun _ _ k9 => z_ild (i + 1) d_L_law_1261 (xs_1 he) (by omega) (by omega) k9) ?_
  refine qy (fun _ _ k9 => z_cv (M1 := M_X11_rules) d_L_law_1262 lv_L_142 k_X11_rules [qI (S (i + 1))] rfl rfl (xput_ob (c := F 2) xi_2 rfl (xsh_11 xo_2)) ⟨_, _, rfl⟩ (Nat.le_of_ble_eq_true rfl) (by decide) (by decide) (Nat.le_of_ble_eq_true rfl) k1 k9) ?_
  refine qy (fun _ _ k9 => z_eq rfl rfl xput_rput k9) ?_
  refine qy (fun _ _ k9 => z_aload_n d_L_law_1265 rfl rfl k9) ?_
  refine qy (fun _ _ k9 => z_aload_n d_L_law_1266 rfl rfl k9) ?_
  refine qy (fun _ _ k9 => z_iload_n d_L_law_1267 rfl rfl k9) ?_
  refine qy (fun _ _ k9 => z_iconst d_L_law_1268 (by decide) k9) ?_
  refine qy (fun _ _ k9 => z_iadd d_L_law_1269 (by omega) k9) ?_
  refine qy (fun _ _ k9 => z_ild (i + 1) d_L_law_1270 (xr_1 he) (by omega) (by omega) k9) ?_
  refine qy (fun _ _ k9 => z_cv (M1 := M_X12_rules) d_L_law_1271 lv_L_145 k_X12_rules [qI (S (i + 1))] rfl rfl rput_o ⟨_, _, rfl⟩ (Nat.le_of_ble_eq_true rfl) (by decide) (by decide) (Nat.le_of_ble_eq_true rfl) k2 k9) ?_
  refine qy (fun _ _ k9 => z_eq rfl rfl xput_rput.symm k9) ?_
  refine qy2 (fun _ _ => z_icmp_eq 1751 d_L_law_1274 (by decide)) (fun _ => kk F' G' f' g' hR') (fun q => absurd rfl q)
set_option maxRecDepth 20000 in
theorem lw_31 {n i : Nat} {S : Nat → Int} {h : qH} {F G : Nat → Nat → Int} {f : Nat → Int} {g : Nat → Nat → Int} {Q : Option qA → qH → Prop} (he : h.2.2 1 = qAr 0 n S) (hn : n ≤ 1000000) (hi : i + 6 ≤ n) (hS : ∀ j, R32 (S j)) (hq : R32 (F 172 4)) (hR : Rel F G f g) (kk : ∀ F' G' f' g', Rel F' G' f' g' → qEy M_L_law 1751 [qR 1, qR 2, qR 220, qI (i : Int)] [] (xput (rput h 220 f' g') F' G') Q) : qEy M_L_law 1279 [qR 1, qR 2, qR 220, qI (i : Int)] [] (xput (rput h 220 f g) F G) Q := by
  obtain ⟨v, F', G', f', g', hR', k1, k2⟩ := st_goes (S (i + 1)) (S (i + 2)) (S (i + 3)) (S (i + 4)) h F G f g hR
  refine qy (fun _ _ k9 => z_aload_n d_L_law_1279 rfl rfl k9) ?_
  refine qy (fun _ _ k9 => z_aload_n d_L_law_1280 rfl rfl k9) ?_
  refine qy (fun _ _ k9 => z_iload_n d_L_law_1281 rfl rfl k9) ?_
  refine qy (fun _ _ k9 => z_iconst d_L_law_1282 (by decide) k9) ?_
  refine qy (fun _ _ k9 => z_iadd d_L_law_1283 (by omega) k9) ?_
  refine qy (fun _ _ k9 => z_ild (i + 1) d_L_law_1284 (xs_1 he) (by omega) (by omega) k9) ?_
  refine qy (fun _ _ k9 => z_aload_n d_L_law_1285 rfl rfl k9) ?_
  refine qy (fun _ _ k9 => z_iload_n d_L_law_1286 rfl rfl k9) ?_
  refine qy (fun _ _ k9 => z_iconst d_L_law_1287 (by decide) k9) ?_
  refine qy (fun _ _ k9 => z_iadd d_L_law_1288 (by omega) k9) ?_
  refine qy (fun _ _ k9 => z_ild (i + 2) d_L_law_1289 (xs_1 he) (by omega) (by omega) k9) ?_
  refine qy (fun _ _ k9 => z_aload_n d_L_law_1290 rfl rfl k9) ?_
  refine qy (fun _ _ k9 => z_iload_n d_L_law_1291 rfl rfl k9) ?_
  refine qy (fun _ _ k9 => z_iconst d_L_law_1292 (by decide) k9) ?_
  refine qy (fun _ _ k9 => z_iadd d_L_law_1293 (by omega) k9) ?_
  refine qy (fun _ _ k9 => z_ild (i + 3) d_L_law_1294 (xs_1 he) (by omega) (by omega) k9) ?_
  refine qy (fun _ _ k9 => z_aload_n d_L_law_1295 rfl rfl k9) ?_
  refine qy (fun _ _ k9 => z_iload_n d_L_law_1296 rfl rfl k9) ?_
  refine qy (fun _ _ k9 => z_iconst d_L_law_1297 (by decide) k9) ?_
  refine qy (fun _ _ k9 => z_iadd d_L_law_1298 (by omega) k9) ?_
  refine qy (fun _ _ k9 => z_ild (i + 4) d_L_law_1299 (xs_1 he) (by omega) (by omega) k9) ?_
  refine qy (fun _ _ k9 => z_cv (M1 := M_X11_goes) d_L_law_1300 lv_L_146 k_X11_goes [qI (S (i + 1)), qI (S (i + 2)), qI (S (i + 3)), qI (S (i + 4))] rfl rfl (xput_ob (c := F 2) xi_2 rfl (xsh_11 xo_2)) ⟨_, _, rfl⟩ (Nat.le_of_ble_eq_true rfl) (by decide) (by decide) (Nat.le_of_ble_eq_true rfl) k1 k9) ?_
  refine qy (fun _ _ k9 => z_eq rfl rfl xput_rput k9) ?_
  refine qy (fun _ _ k9 => z_aload_n d_L_law_1303 rfl rfl k9) ?_
  refine qy (fun _ _ k9 => z_aload_n d_L_law_1304 rfl rfl k9) ?_
  refine qy (fun _ _ k9 => z_iload_n d_L_law_1305 rfl rfl k9) ?_
  refine qy (fun _ _ k9 => z_iconst d_L_law_1306 (by decide) k9) ?_
  refine qy (fun _ _ k9 => z_iadd d_L_law_1307 (by omega) k9) ?_
  refine qy (fun _ _ k9 => z_ild (i + 1) d_L_law_1308 (xr_1 he) (by omega) (by omega) k9) ?_
  refine qy (fun _ _ k9 => z_aload_n d_L_law_1309 rfl rfl k9) ?_
  refine qy (fun _ _ k9 => z_iload_n d_L_law_1310 rfl rfl k9) ?_
  refine qy (fun _ _ k9 => z_iconst d_L_law_1311 (by decide) k9) ?_
  refine qy (fun _ _ k9 => z_iadd d_L_law_1312 (by omega) k9) ?_
  refine qy (fun _ _ k9 => z_ild (i + 2) d_L_law_1313 (xr_1 he) (by omega) (by omega) k9) ?_
  refine qy (fun _ _ k9 => z_aload_n d_L_law_1314 rfl rfl k9) ?_
  refine qy (fun _ _ k9 => z_iload_n d_L_law_1315 rfl rfl k9) ?_
  refine qy (fun _ _ k9 => z_iconst d_L_law_1316 (by decide) k9) ?_
  refine qy (fun _ _ k9 => z_iadd d_L_law_1317 (by omega) k9) ?_
  refine qy (fun _ _ k9 => z_ild (i + 3) d_L_law_1318 (xr_1 he) (by omega) (by omega) k9) ?_
  refine qy (fun _ _ k9 => z_aload_n d_L_law_1319 rfl rfl k9) ?_
  refine qy (fun _ _ k9 => z_iload_n d_L_law_1320 rfl rfl k9) ?_
  refine qy (fun _ _ k9 => z_iconst d_L_law_1321 (by decide) k9) ?_
  refine qy (fun _ _ k9 => z_iadd d_L_law_1322 (by omega) k9) ?_
  refine qy (fun _ _ k9 => z_ild (i + 4) d_L_law_1323 (xr_1 he) (by omega) (by omega) k9) ?_
  refine qy (fun _ _ k9 => z_cv (M1 := M_X12_goes) d_L_law_1324 lv_L_149 k_X12_goes [qI (S (i + 1)), qI (S (i + 2)), qI (S (i + 3)), qI (S (i + 4))] rfl rfl rput_o ⟨_, _, rfl⟩ (Nat.le_of_ble_eq_true rfl) (by decide) (by decide) (Nat.le_of_ble_eq_true rfl) k2 k9) ?_
  refine qy (fun _ _ k9 => z_eq rfl rfl xput_rput.symm k9) ?_
  refine qy2 (fun _ _ => z_icmp_eq 1751 d_L_law_1327 (by decide)) (fun _ => kk F' G' f' g' hR') (fun q => absurd rfl q)
set_option maxRecDepth 20000 in
theorem lw_32 {n i : Nat} {S : Nat → Int} {h : qH} {F G : Nat → Nat → Int} {f : Nat → Int} {g : Nat → Nat → Int} {Q : Option qA → qH → Prop} (he : h.2.2 1 = qAr 0 n S) (hn : n ≤ 1000000) (hi : i + 6 ≤ n) (hS : ∀ j, R32 (S j)) (hq : R32 (F 172 4)) (hR : Rel F G f g) (kk : ∀ F' G' f' g', Rel F' G' f' g' → qEy M_L_law 1751 [qR 1, qR 2, qR 220, qI (i : Int)] [] (xput (rput h 220 f' g') F' G') Q) : qEy M_L_law 1332 [qR 1, qR 2, qR 220, qI (i : Int)] [] (xput (rput h 220 f g) F G) Q := by
  obtain ⟨v, F', G', f', g', hR', k1, k2⟩ := st_meets (S (i + 1)) (S (i + 2)) (S (i + 3)) h F G f g hR
  refine qy (fun _ _ k9 => z_aload_n d_L_law_1332 rfl rfl k9) ?_
  refine qy (fun _ _ k9 => z_aload_n d_L_law_1333 rfl rfl k9) ?_
  refine qy (fun _ _ k9 => z_iload_n d_L_law_1334 rfl rfl k9) ?_
  refine qy (fun _ _ k9 => z_iconst d_L_law_1335 (by decide) k9) ?_
  refine qy (fun _ _ k9 => z_iadd d_L_law_1336 (by omega) k9) ?_
  refine qy (fun _ _ k9 => z_ild (i + 1) d_L_law_1337 (xs_1 he) (by omega) (by omega) k9) ?_
  refine qy (fun _ _ k9 => z_aload_n d_L_law_1338 rfl rfl k9) ?_
  refine qy (fun _ _ k9 => z_iload_n d_L_law_1339 rfl rfl k9) ?_
  refine qy (fun _ _ k9 => z_iconst d_L_law_1340 (by decide) k9) ?_
  refine qy (fun _ _ k9 => z_iadd d_L_law_1341 (by omega) k9) ?_
  refine qy (fun _ _ k9 => z_ild (i + 2) d_L_law_1342 (xs_1 he) (by omega) (by omega) k9) ?_
  refine qy (fun _ _ k9 => z_aload_n d_L_law_1343 rfl rfl k9) ?_
  refine qy (fun _ _ k9 => z_iload_n d_L_law_1344 rfl rfl k9) ?_
  refine qy (fun _ _ k9 => z_iconst d_L_law_1345 (by decide) k9) ?_
  refine qy (fun _ _ k9 => z_iadd d_L_law_1346 (by omega) k9) ?_
  refine qy (fun _ _ k9 => z_ild (i + 3) d_L_law_1347 (xs_1 he) (by omega) (by omega) k9) ?_
  refine qy (fun _ _ k9 => z_cv (M1 := M_X11_meets) d_L_law_1348 lv_L_150 k_X11_meets [qI (S (i + 1)), qI (S (i + 2)), qI (S (i + 3))] rfl rfl (xput_ob (c := F 2) xi_2 rfl (xsh_11 xo_2)) ⟨_, _, rfl⟩ (Nat.le_of_ble_eq_true rfl) (by decide) (by decide) (Nat.le_of_ble_eq_true rfl) k1 k9) ?_
  refine qy (fun _ _ k9 => z_eq rfl rfl xput_rput k9) ?_
  refine qy (fun _ _ k9 => z_aload_n d_L_law_1351 rfl rfl k9) ?_
  refine qy (fun _ _ k9 => z_aload_n d_L_law_1352 rfl rfl k9) ?_
  refine qy (fun _ _ k9 => z_iload_n d_L_law_1353 rfl rfl k9) ?_
  refine qy (fun _ _ k9 => z_iconst d_L_law_1354 (by decide) k9) ?_
  refine qy (fun _ _ k9 => z_iadd d_L_law_1355 (by omega) k9) ?_
  refine qy (fun _ _ k9 => z_ild (i + 1) d_L_law_1356 (xr_1 he) (by omega) (by omega) k9) ?_
  refine qy (fun _ _ k9 => z_aload_n d_L_law_1357 rfl rfl k9) ?_
  refine qy (fun _ _ k9 => z_iload_n d_L_law_1358 rfl rfl k9) ?_
  refine qy (fun _ _ k9 => z_iconst d_L_law_1359 (by decide) k9) ?_
  refine qy (fun _ _ k9 => z_iadd d_L_law_1360 (by omega) k9) ?_
  refine qy (fun _ _ k9 => z_ild (i + 2) d_L_law_1361 (xr_1 he) (by omega) (by omega) k9) ?_
  refine qy (fun _ _ k9 => z_aload_n d_L_law_1362 rfl rfl k9) ?_
  refine qy (fun _ _ k9 => z_iload_n d_L_law_1363 rfl rfl k9) ?_
  refine qy (fun _ _ k9 => z_iconst d_L_law_1364 (by decide) k9) ?_
  refine qy (fun _ _ k9 => z_iadd d_L_law_1365 (by omega) k9) ?_
  refine qy (fun _ _ k9 => z_ild (i + 3) d_L_law_1366 (xr_1 he) (by omega) (by omega) k9) ?_
  refine qy (fun _ _ k9 => z_cv (M1 := M_X12_meets) d_L_law_1367 lv_L_153 k_X12_meets [qI (S (i + 1)), qI (S (i + 2)), qI (S (i + 3))] rfl rfl rput_o ⟨_, _, rfl⟩ (Nat.le_of_ble_eq_true rfl) (by decide) (by decide) (Nat.le_of_ble_eq_true rfl) k2 k9) ?_
  refine qy (fun _ _ k9 => z_eq rfl rfl xput_rput.symm k9) ?_
  refine qy2 (fun _ _ => z_icmp_eq 1751 d_L_law_1370 (by decide)) (fun _ => kk F' G' f' g' hR') (fun q => absurd rfl q)
set_option maxRecDepth 20000 in
theorem lw_33 {n i : Nat} {S : Nat → Int} {h : qH} {F G : Nat → Nat → Int} {f : Nat → Int} {g : Nat → Nat → Int} {Q : Option qA → qH → Prop} (he : h.2.2 1 = qAr 0 n S) (hn : n ≤ 1000000) (hi : i + 6 ≤ n) (hS : ∀ j, R32 (S j)) (hq : R32 (F 172 4)) (hR : Rel F G f g) (kk : ∀ F' G' f' g', Rel F' G' f' g' → qEy M_L_law 1751 [qR 1, qR 2, qR 220, qI (i : Int)] [] (xput (rput h 220 f' g') F' G') Q) : qEy M_L_law 1375 [qR 1, qR 2, qR 220, qI (i : Int)] [] (xput (rput h 220 f g) F G) Q := by
  obtain ⟨v, F', G', f', g', hR', k1, k2⟩ := st_echo (S (i + 1)) (S (i + 2)) (S (i + 3)) (S (i + 4)) h F G f g hR
  refine qy (fun _ _ k9 => z_aload_n d_L_law_1375 rfl rfl k9) ?_
  refine qy (fun _ _ k9 => z_aload_n d_L_law_1376 rfl rfl k9) ?_
  refine qy (fun _ _ k9 => z_iload_n d_L_law_1377 rfl rfl k9) ?_
  refine qy (fun _ _ k9 => z_iconst d_L_law_1378 (by decide) k9) ?_
  refine qy (fun _ _ k9 => z_iadd d_L_law_1379 (by omega) k9) ?_
  refine qy (fun _ _ k9 => z_ild (i + 1) d_L_law_1380 (xs_1 he) (by omega) (by omega) k9) ?_
  refine qy (fun _ _ k9 => z_aload_n d_L_law_1381 rfl rfl k9) ?_
  refine qy (fun _ _ k9 => z_iload_n d_L_law_1382 rfl rfl k9) ?_
  refine qy (fun _ _ k9 => z_iconst d_L_law_1383 (by decide) k9) ?_
  refine qy (fun _ _ k9 => z_iadd d_L_law_1384 (by omega) k9) ?_
  refine qy (fun _ _ k9 => z_ild (i + 2) d_L_law_1385 (xs_1 he) (by omega) (by omega) k9) ?_
  refine qy (fun _ _ k9 => z_aload_n d_L_law_1386 rfl rfl k9) ?_
  refine qy (fun _ _ k9 => z_iload_n d_L_law_1387 rfl rfl k9) ?_
  refine qy (fun _ _ k9 => z_iconst d_L_law_1388 (by decide) k9) ?_
  refine qy (fun _ _ k9 => z_iadd d_L_law_1389 (by omega) k9) ?_
  refine qy (fun _ _ k9 => z_ild (i + 3) d_L_law_1390 (xs_1 he) (by omega) (by omega) k9) ?_
  refine qy (fun _ _ k9 => z_aload_n d_L_law_1391 rfl rfl k9) ?_
  refine qy (fun _ _ k9 => z_iload_n d_L_law_1392 rfl rfl k9) ?_
  refine qy (fun _ _ k9 => z_iconst d_L_law_1393 (by decide) k9) ?_
  refine qy (fun _ _ k9 => z_iadd d_L_law_1394 (by omega) k9) ?_
  refine qy (fun _ _ k9 => z_ild (i + 4) d_L_law_1395 (xs_1 he) (by omega) (by omega) k9) ?_
  refine qy (fun _ _ k9 => z_cv (M1 := M_X11_echo) d_L_law_1396 lv_L_154 k_X11_echo [qI (S (i + 1)), qI (S (i + 2)), qI (S (i + 3)), qI (S (i + 4))] rfl rfl (xput_ob (c := F 2) xi_2 rfl (xsh_11 xo_2)) ⟨_, _, rfl⟩ (Nat.le_of_ble_eq_true rfl) (by decide) (by decide) (Nat.le_of_ble_eq_true rfl) k1 k9) ?_
  refine qy (fun _ _ k9 => z_eq rfl rfl xput_rput k9) ?_
  refine qy (fun _ _ k9 => z_aload_n d_L_law_1399 rfl rfl k9) ?_
  refine qy (fun _ _ k9 => z_aload_n d_L_law_1400 rfl rfl k9) ?_
  refine qy (fun _ _ k9 => z_iload_n d_L_law_1401 rfl rfl k9) ?_
  refine qy (fun _ _ k9 => z_iconst d_L_law_1402 (by decide) k9) ?_
  refine qy (fun _ _ k9 => z_iadd d_L_law_1403 (by omega) k9) ?_
  refine qy (fun _ _ k9 => z_ild (i + 1) d_L_law_1404 (xr_1 he) (by omega) (by omega) k9) ?_
  refine qy (fun _ _ k9 => z_aload_n d_L_law_1405 rfl rfl k9) ?_
  refine qy (fun _ _ k9 => z_iload_n d_L_law_1406 rfl rfl k9) ?_
  refine qy (fun _ _ k9 => z_iconst d_L_law_1407 (by decide) k9) ?_
  refine qy (fun _ _ k9 => z_iadd d_L_law_1408 (by omega) k9) ?_
  refine qy (fun _ _ k9 => z_ild (i + 2) d_L_law_1409 (xr_1 he) (by omega) (by omega) k9) ?_
  refine qy (fun _ _ k9 => z_aload_n d_L_law_1410 rfl rfl k9) ?_
  refine qy (fun _ _ k9 => z_iload_n d_L_law_1411 rfl rfl k9) ?_
  refine qy (fun _ _ k9 => z_iconst d_L_law_1412 (by decide) k9) ?_
  refine qy (fun _ _ k9 => z_iadd d_L_law_1413 (by omega) k9) ?_
  refine qy (fun _ _ k9 => z_ild (i + 3) d_L_law_1414 (xr_1 he) (by omega) (by omega) k9) ?_
  refine qy (fun _ _ k9 => z_aload_n d_L_law_1415 rfl rfl k9) ?_
  refine qy (fun _ _ k9 => z_iload_n d_L_law_1416 rfl rfl k9) ?_
  refine qy (fun _ _ k9 => z_iconst d_L_law_1417 (by decide) k9) ?_
  refine qy (fun _ _ k9 => z_iadd d_L_law_1418 (by omega) k9) ?_
  refine qy (fun _ _ k9 => z_ild (i + 4) d_L_law_1419 (xr_1 he) (by omega) (by omega) k9) ?_
  refine qy (fun _ _ k9 => z_cv (M1 := M_X12_echo) d_L_law_1420 lv_L_157 k_X12_echo [qI (S (i + 1)), qI (S (i + 2)), qI (S (i + 3)), qI (S (i + 4))] rfl rfl rput_o ⟨_, _, rfl⟩ (Nat.le_of_ble_eq_true rfl) (by decide) (by decide) (Nat.le_of_ble_eq_true rfl) k2 k9) ?_
  refine qy (fun _ _ k9 => z_eq rfl rfl xput_rput.symm k9) ?_
  refine qy2 (fun _ _ => z_icmp_eq 1751 d_L_law_1423 (by decide)) (fun _ => kk F' G' f' g' hR') (fun q => absurd rfl q)
set_option maxRecDepth 20000 in
theorem lw_34 {n i : Nat} {S : Nat → Int} {h : qH} {F G : Nat → Nat → Int} {f : Nat → Int} {g : Nat → Nat → Int} {Q : Option qA → qH → Prop} (he : h.2.2 1 = qAr 0 n S) (hn : n ≤ 1000000) (hi : i + 6 ≤ n) (hS : ∀ j, R32 (S j)) (hq : R32 (F 172 4)) (hR : Rel F G f g) (kk : ∀ F' G' f' g', Rel F' G' f' g' → qEy M_L_law 1751 [qR 1, qR 2, qR 220, qI (i : Int)] [] (xput (rput h 220 f' g') F' G') Q) : qEy M_L_law 1428 [qR 1, qR 2, qR 220, qI (i : Int)] [] (xput (rput h 220 f g) F G) Q := by
  obtain ⟨v, F', G', f', g', hR', k1, k2⟩ := st_lights (S (i + 1)) (S (i + 2)) (S (i + 3)) h F G f g hR
  refine qy (fun _ _ k9 => z_aload_n d_L_law_1428 rfl rfl k9) ?_
  refine qy (fun _ _ k9 => z_aload_n d_L_law_1429 rfl rfl k9) ?_
  refine qy (fun _ _ k9 => z_iload_n d_L_law_1430 rfl rfl k9) ?_
  refine qy (fun _ _ k9 => z_iconst d_L_law_1431 (by decide) k9) ?_
  refine qy (fun _ _ k9 => z_iadd d_L_law_1432 (by omega) k9) ?_
  refine qy (fun _ _ k9 => z_ild (i + 1) d_L_law_1433 (xs_1 he) (by omega) (by omega) k9) ?_
  refine qy (fun _ _ k9 => z_aload_n d_L_law_1434 rfl rfl k9) ?_
  refine qy (fun _ _ k9 => z_iload_n d_L_law_1435 rfl rfl k9) ?_
  refine qy (fun _ _ k9 => z_iconst d_L_law_1436 (by decide) k9) ?_
  refine qy (fun _ _ k9 => z_iadd d_L_law_1437 (by omega) k9) ?_
  refine qy (fun _ _ k9 => z_ild (i + 2) d_L_law_1438 (xs_1 he) (by omega) (by omega) k9) ?_
  refine qy (fun _ _ k9 => z_aload_n d_L_law_1439 rfl rfl k9) ?_
  refine qy (fun _ _ k9 => z_iload_n d_L_law_1440 rfl rfl k9) ?_
  refine qy (fun _ _ k9 => z_iconst d_L_law_1441 (by decide) k9) ?_
  refine qy (fun _ _ k9 => z_iadd d_L_law_1442 (by omega) k9) ?_
  refine qy (fun _ _ k9 => z_ild (i + 3) d_L_law_1443 (xs_1 he) (by omega) (by omega) k9) ?_
  refine qy (fun _ _ k9 => z_cv (M1 := M_X11_lights) d_L_law_1444 lv_L_158 k_X11_lights [qI (S (i + 1)), qI (S (i + 2)), qI (S (i + 3))] rfl rfl (xput_ob (c := F 2) xi_2 rfl (xsh_11 xo_2)) ⟨_, _, rfl⟩ (Nat.le_of_ble_eq_true rfl) (by decide) (by decide) (Nat.le_of_ble_eq_true rfl) k1 k9) ?_
  refine qy (fun _ _ k9 => z_eq rfl rfl xput_rput k9) ?_
  refine qy (fun _ _ k9 => z_aload_n d_L_law_1447 rfl rfl k9) ?_
  refine qy (fun _ _ k9 => z_aload_n d_L_law_1448 rfl rfl k9) ?_
  refine qy (fun _ _ k9 => z_iload_n d_L_law_1449 rfl rfl k9) ?_
  refine qy (fun _ _ k9 => z_iconst d_L_law_1450 (by decide) k9) ?_
  refine qy (fun _ _ k9 => z_iadd d_L_law_1451 (by omega) k9) ?_
  refine qy (fun _ _ k9 => z_ild (i + 1) d_L_law_1452 (xr_1 he) (by omega) (by omega) k9) ?_
  refine qy (fun _ _ k9 => z_aload_n d_L_law_1453 rfl rfl k9) ?_
  refine qy (fun _ _ k9 => z_iload_n d_L_law_1454 rfl rfl k9) ?_
  refine qy (fun _ _ k9 => z_iconst d_L_law_1455 (by decide) k9) ?_
  refine qy (fun _ _ k9 => z_iadd d_L_law_1456 (by omega) k9) ?_
  refine qy (fun _ _ k9 => z_ild (i + 2) d_L_law_1457 (xr_1 he) (by omega) (by omega) k9) ?_
  refine qy (fun _ _ k9 => z_aload_n d_L_law_1458 rfl rfl k9) ?_
  refine qy (fun _ _ k9 => z_iload_n d_L_law_1459 rfl rfl k9) ?_
  refine qy (fun _ _ k9 => z_iconst d_L_law_1460 (by decide) k9) ?_
  refine qy (fun _ _ k9 => z_iadd d_L_law_1461 (by omega) k9) ?_
  refine qy (fun _ _ k9 => z_ild (i + 3) d_L_law_1462 (xr_1 he) (by omega) (by omega) k9) ?_
  refine qy (fun _ _ k9 => z_cv (M1 := M_X12_lights) d_L_law_1463 lv_L_161 k_X12_lights [qI (S (i + 1)), qI (S (i + 2)), qI (S (i + 3))] rfl rfl rput_o ⟨_, _, rfl⟩ (Nat.le_of_ble_eq_true rfl) (by decide) (by decide) (Nat.le_of_ble_eq_true rfl) k2 k9) ?_
  refine qy (fun _ _ k9 => z_eq rfl rfl xput_rput.symm k9) ?_
  refine qy2 (fun _ _ => z_icmp_eq 1751 d_L_law_1466 (by decide)) (fun _ => kk F' G' f' g' hR') (fun q => absurd rfl q)
set_option maxRecDepth 20000 in
theorem lw_35 {n i : Nat} {S : Nat → Int} {h : qH} {F G : Nat → Nat → Int} {f : Nat → Int} {g : Nat → Nat → Int} {Q : Option qA → qH → Prop} (he : h.2.2 1 = qAr 0 n S) (hn : n ≤ 1000000) (hi : i + 6 ≤ n) (hS : ∀ j, R32 (S j)) (hq : R32 (F 172 4)) (hR : Rel F G f g) (kk : ∀ F' G' f' g', Rel F' G' f' g' → qEy M_L_law 1751 [qR 1, qR 2, qR 220, qI (i : Int)] [] (xput (rput h 220 f' g') F' G') Q) : qEy M_L_law 1471 [qR 1, qR 2, qR 220, qI (i : Int)] [] (xput (rput h 220 f g) F G) Q := by
  obtain ⟨v, F', G', f', g', hR', k1, k2⟩ := st_stir (S (i + 1)) (S (i + 2)) (S (i + 3)) (hS _) h F G f g hR
  refine qy (fun _ _ k9 => z_aload_n d_L_law_1471 rfl rfl k9) ?_
  refine qy (fun _ _ k9 => z_aload_n d_L_law_1472 rfl rfl k9) ?_
  refine qy (fun _ _ k9 => z_iload_n d_L_law_1473 rfl rfl k9) ?_
  refine qy (fun _ _ k9 => z_iconst d_L_law_1474 (by decide) k9) ?_
  refine qy (fun _ _ k9 => z_iadd d_L_law_1475 (by omega) k9) ?_
  refine qy (fun _ _ k9 => z_ild (i + 1) d_L_law_1476 (xs_1 he) (by omega) (by omega) k9) ?_
  refine qy (fun _ _ k9 => z_aload_n d_L_law_1477 rfl rfl k9) ?_
  refine qy (fun _ _ k9 => z_iload_n d_L_law_1478 rfl rfl k9) ?_
  refine qy (fun _ _ k9 => z_iconst d_L_law_1479 (by decide) k9) ?_
  refine qy (fun _ _ k9 => z_iadd d_L_law_1480 (by omega) k9) ?_
  refine qy (fun _ _ k9 => z_ild (i + 2) d_L_law_1481 (xs_1 he) (by omega) (by omega) k9) ?_
  refine qy (fun _ _ k9 => z_aload_n d_L_law_1482 rfl rfl k9) ?_
  refine qy (fun _ _ k9 => z_iload_n d_L_law_1483 rfl rfl k9) ?_
  refine qy (fun _ _ k9 => z_iconst d_L_law_1484 (by decide) k9) ?_
  refine qy (fun _ _ k9 => z_iadd d_L_law_1485 (by omega) k9) ?_
  refine qy (fun _ _ k9 => z_ild (i + 3) d_L_law_1486 (xs_1 he) (by omega) (by omega) k9) ?_
  refine qy (fun _ _ k9 => z_cv (M1 := M_X11_stir) d_L_law_1487 lv_L_162 k_X11_stir [qI (S (i + 1)), qI (S (i + 2)), qI (S (i + 3))] rfl rfl (xput_ob (c := F 2) xi_2 rfl (xsh_11 xo_2)) ⟨_, _, rfl⟩ (Nat.le_of_ble_eq_true rfl) (by decide) (by decide) (Nat.le_of_ble_eq_true rfl) k1 k9) ?_
  refine qy (fun _ _ k9 => z_eq rfl rfl xput_rput k9) ?_
  refine qy (fun _ _ k9 => z_aload_n d_L_law_1490 rfl rfl k9) ?_
  refine qy (fun _ _ k9 => z_aload_n d_L_law_1491 rfl rfl k9) ?_
  refine qy (fun _ _ k9 => z_iload_n d_L_law_1492 rfl rfl k9) ?_
  refine qy (fun _ _ k9 => z_iconst d_L_law_1493 (by decide) k9) ?_
  refine qy (fun _ _ k9 => z_iadd d_L_law_1494 (by omega) k9) ?_
  refine qy (fun _ _ k9 => z_ild (i + 1) d_L_law_1495 (xr_1 he) (by omega) (by omega) k9) ?_
  refine qy (fun _ _ k9 => z_aload_n d_L_law_1496 rfl rfl k9) ?_
  refine qy (fun _ _ k9 => z_iload_n d_L_law_1497 rfl rfl k9) ?_
  refine qy (fun _ _ k9 => z_iconst d_L_law_1498 (by decide) k9) ?_
  refine qy (fun _ _ k9 => z_iadd d_L_law_1499 (by omega) k9) ?_
  refine qy (fun _ _ k9 => z_ild (i + 2) d_L_law_1500 (xr_1 he) (by omega) (by omega) k9) ?_
  refine qy (fun _ _ k9 => z_aload_n d_L_law_1501 rfl rfl k9) ?_
  refine qy (fun _ _ k9 => z_iload_n d_L_law_1502 rfl rfl k9) ?_
  refine qy (fun _ _ k9 => z_iconst d_L_law_1503 (by decide) k9) ?_
  refine qy (fun _ _ k9 => z_iadd d_L_law_1504 (by omega) k9) ?_
  refine qy (fun _ _ k9 => z_ild (i + 3) d_L_law_1505 (xr_1 he) (by omega) (by omega) k9) ?_
  refine qy (fun _ _ k9 => z_cv (M1 := M_X12_stir) d_L_law_1506 lv_L_165 k_X12_stir [qI (S (i + 1)), qI (S (i + 2)), qI (S (i + 3))] rfl rfl rput_o ⟨_, _, rfl⟩ (Nat.le_of_ble_eq_true rfl) (by decide) (by decide) (Nat.le_of_ble_eq_true rfl) k2 k9) ?_
  refine qy (fun _ _ k9 => z_eq rfl rfl xput_rput.symm k9) ?_
  refine qy2 (fun _ _ => z_icmp_eq 1751 d_L_law_1509 (by decide)) (fun _ => kk F' G' f' g' hR') (fun q => absurd rfl q)
set_option maxRecDepth 20000 in
theorem lw_36 {n i : Nat} {S : Nat → Int} {h : qH} {F G : Nat → Nat → Int} {f : Nat → Int} {g : Nat → Nat → Int} {Q : Option qA → qH → Prop} (he : h.2.2 1 = qAr 0 n S) (hn : n ≤ 1000000) (hi : i + 6 ≤ n) (hS : ∀ j, R32 (S j)) (hq : R32 (F 172 4)) (hR : Rel F G f g) (kk : ∀ F' G' f' g', Rel F' G' f' g' → qEy M_L_law 1751 [qR 1, qR 2, qR 220, qI (i : Int)] [] (xput (rput h 220 f' g') F' G') Q) : qEy M_L_law 1514 [qR 1, qR 2, qR 220, qI (i : Int)] [] (xput (rput h 220 f g) F G) Q := by
  obtain ⟨v, F', G', f', g', hR', k1, k2⟩ := st_crowd (S (i + 1)) (S (i + 2)) (S (i + 3)) (S (i + 4)) (hS _) h F G f g hR
  refine qy (fun _ _ k9 => z_aload_n d_L_law_1514 rfl rfl k9) ?_
  refine qy (fun _ _ k9 => z_aload_n d_L_law_1515 rfl rfl k9) ?_
  refine qy (fun _ _ k9 => z_iload_n d_L_law_1516 rfl rfl k9) ?_
  refine qy (fun _ _ k9 => z_iconst d_L_law_1517 (by decide) k9) ?_
  refine qy (fun _ _ k9 => z_iadd d_L_law_1518 (by omega) k9) ?_
  refine qy (fun _ _ k9 => z_ild (i + 1) d_L_law_1519 (xs_1 he) (by omega) (by omega) k9) ?_
  refine qy (fun _ _ k9 => z_aload_n d_L_law_1520 rfl rfl k9) ?_
  refine qy (fun _ _ k9 => z_iload_n d_L_law_1521 rfl rfl k9) ?_
  refine qy (fun _ _ k9 => z_iconst d_L_law_1522 (by decide) k9) ?_
  refine qy (fun _ _ k9 => z_iadd d_L_law_1523 (by omega) k9) ?_
  refine qy (fun _ _ k9 => z_ild (i + 2) d_L_law_1524 (xs_1 he) (by omega) (by omega) k9) ?_
  refine qy (fun _ _ k9 => z_aload_n d_L_law_1525 rfl rfl k9) ?_
  refine qy (fun _ _ k9 => z_iload_n d_L_law_1526 rfl rfl k9) ?_
  refine qy (fun _ _ k9 => z_iconst d_L_law_1527 (by decide) k9) ?_
  refine qy (fun _ _ k9 => z_iadd d_L_law_1528 (by omega) k9) ?_
  refine qy (fun _ _ k9 => z_ild (i + 3) d_L_law_1529 (xs_1 he) (by omega) (by omega) k9) ?_
  refine qy (fun _ _ k9 => z_aload_n d_L_law_1530 rfl rfl k9) ?_
  refine qy (fun _ _ k9 => z_iload_n d_L_law_1531 rfl rfl k9) ?_
  refine qy (fun _ _ k9 => z_iconst d_L_law_1532 (by decide) k9) ?_
  refine qy (fun _ _ k9 => z_iadd d_L_law_1533 (by omega) k9) ?_
  refine qy (fun _ _ k9 => z_ild (i + 4) d_L_law_1534 (xs_1 he) (by omega) (by omega) k9) ?_
  refine qy (fun _ _ k9 => z_cv (M1 := M_X11_crowd) d_L_law_1535 lv_L_166 k_X11_crowd [qI (S (i + 1)), qI (S (i + 2)), qI (S (i + 3)), qI (S (i + 4))] rfl rfl (xput_ob (c := F 2) xi_2 rfl (xsh_11 xo_2)) ⟨_, _, rfl⟩ (Nat.le_of_ble_eq_true rfl) (by decide) (by decide) (Nat.le_of_ble_eq_true rfl) k1 k9) ?_
  refine qy (fun _ _ k9 => z_eq rfl rfl xput_rput k9) ?_
  refine qy (fun _ _ k9 => z_aload_n d_L_law_1538 rfl rfl k9) ?_
  refine qy (fun _ _ k9 => z_aload_n d_L_law_1539 rfl rfl k9) ?_
  refine qy (fun _ _ k9 => z_iload_n d_L_law_1540 rfl rfl k9) ?_
  refine qy (fun _ _ k9 => z_iconst d_L_law_1541 (by decide) k9) ?_
  refine qy (fun _ _ k9 => z_iadd d_L_law_1542 (by omega) k9) ?_
  refine qy (fun _ _ k9 => z_ild (i + 1) d_L_law_1543 (xr_1 he) (by omega) (by omega) k9) ?_
  refine qy (fun _ _ k9 => z_aload_n d_L_law_1544 rfl rfl k9) ?_
  refine qy (fun _ _ k9 => z_iload_n d_L_law_1545 rfl rfl k9) ?_
  refine qy (fun _ _ k9 => z_iconst d_L_law_1546 (by decide) k9) ?_
  refine qy (fun _ _ k9 => z_iadd d_L_law_1547 (by omega) k9) ?_
  refine qy (fun _ _ k9 => z_ild (i + 2) d_L_law_1548 (xr_1 he) (by omega) (by omega) k9) ?_
  refine qy (fun _ _ k9 => z_aload_n d_L_law_1549 rfl rfl k9) ?_
  refine qy (fun _ _ k9 => z_iload_n d_L_law_1550 rfl rfl k9) ?_
  refine qy (fun _ _ k9 => z_iconst d_L_law_1551 (by decide) k9) ?_
  refine qy (fun _ _ k9 => z_iadd d_L_law_1552 (by omega) k9) ?_
  refine qy (fun _ _ k9 => z_ild (i + 3) d_L_law_1553 (xr_1 he) (by omega) (by omega) k9) ?_
  refine qy (fun _ _ k9 => z_aload_n d_L_law_1554 rfl rfl k9) ?_
  refine qy (fun _ _ k9 => z_iload_n d_L_law_1555 rfl rfl k9) ?_
  refine qy (fun _ _ k9 => z_iconst d_L_law_1556 (by decide) k9) ?_
  refine qy (fun _ _ k9 => z_iadd d_L_law_1557 (by omega) k9) ?_
  refine qy (fun _ _ k9 => z_ild (i + 4) d_L_law_1558 (xr_1 he) (by omega) (by omega) k9) ?_
  refine qy (fun _ _ k9 => z_cv (M1 := M_X12_crowd) d_L_law_1559 lv_L_169 k_X12_crowd [qI (S (i + 1)), qI (S (i + 2)), qI (S (i + 3)), qI (S (i + 4))] rfl rfl rput_o ⟨_, _, rfl⟩ (Nat.le_of_ble_eq_true rfl) (by decide) (by decide) (Nat.le_of_ble_eq_true rfl) k2 k9) ?_
  refine qy (fun _ _ k9 => z_eq rfl rfl xput_rput.symm k9) ?_
  refine qy2 (fun _ _ => z_icmp_eq 1751 d_L_law_1562 (by decide)) (fun _ => kk F' G' f' g' hR') (fun q => absurd rfl q)
set_option maxRecDepth 20000 in
theorem lw_37 {n i : Nat} {S : Nat → Int} {h : qH} {F G : Nat → Nat → Int} {f : Nat → Int} {g : Nat → Nat → Int} {Q : Option qA → qH → Prop} (he : h.2.2 1 = qAr 0 n S) (hn : n ≤ 1000000) (hi : i + 6 ≤ n) (hS : ∀ j, R32 (S j)) (hq : R32 (F 172 4)) (hR : Rel F G f g) (kk : ∀ F' G' f' g', Rel F' G' f' g' → qEy M_L_law 1751 [qR 1, qR 2, qR 220, qI (i : Int)] [] (xput (rput h 220 f' g') F' G') Q) : qEy M_L_law 1567 [qR 1, qR 2, qR 220, qI (i : Int)] [] (xput (rput h 220 f g) F G) Q := by
  obtain ⟨v, F', G', f', g', hR', k1, k2⟩ := st_begun (S (i + 1)) (S (i + 2)) h F G f g hR
  refine qy (fun _ _ k9 => z_aload_n d_L_law_1567 rfl rfl k9) ?_
  refine qy (fun _ _ k9 => z_aload_n d_L_law_1568 rfl rfl k9) ?_
  refine qy (fun _ _ k9 => z_iload_n d_L_law_1569 rfl rfl k9) ?_
  refine qy (fun _ _ k9 => z_iconst d_L_law_1570 (by decide) k9) ?_
  refine qy (fun _ _ k9 => z_iadd d_L_law_1571 (by omega) k9) ?_
  refine qy (fun _ _ k9 => z_ild (i + 1) d_L_law_1572 (xs_1 he) (by omega) (by omega) k9) ?_
  refine qy (fun _ _ k9 => z_aload_n d_L_law_1573 rfl rfl k9) ?_
  refine qy (fun _ _ k9 => z_iload_n d_L_law_1574 rfl rfl k9) ?_
  refine qy (fun _ _ k9 => z_iconst d_L_law_1575 (by decide) k9) ?_
  refine qy (fun _ _ k9 => z_iadd d_L_law_1576 (by omega) k9) ?_
  refine qy (fun _ _ k9 => z_ild (i + 2) d_L_law_1577 (xs_1 he) (by omega) (by omega) k9) ?_
  refine qy (fun _ _ k9 => z_cv (M1 := M_X11_begun) d_L_law_1578 lv_L_170 k_X11_begun [qI (S (i + 1)), qI (S (i + 2))] rfl rfl (xput_ob (c := F 2) xi_2 rfl (xsh_11 xo_2)) ⟨_, _, rfl⟩ (Nat.le_of_ble_eq_true rfl) (by decide) (by decide) (Nat.le_of_ble_eq_true rfl) k1 k9) ?_
  refine qy (fun _ _ k9 => z_eq rfl rfl xput_rput k9) ?_
  refine qy (fun _ _ k9 => z_aload_n d_L_law_1581 rfl rfl k9) ?_
  refine qy (fun _ _ k9 => z_aload_n d_L_law_1582 rfl rfl k9) ?_
  refine qy (fun _ _ k9 => z_iload_n d_L_law_1583 rfl rfl k9) ?_
  refine qy (fun _ _ k9 => z_iconst d_L_law_1584 (by decide) k9) ?_
  refine qy (fun _ _ k9 => z_iadd d_L_law_1585 (by omega) k9) ?_
  refine qy (fun _ _ k9 => z_ild (i + 1) d_L_law_1586 (xr_1 he) (by omega) (by omega) k9) ?_
  refine qy (fun _ _ k9 => z_aload_n d_L_law_1587 rfl rfl k9) ?_
  refine qy (fun _ _ k9 => z_iload_n d_L_law_1588 rfl rfl k9) ?_
  refine qy (fun _ _ k9 => z_iconst d_L_law_1589 (by decide) k9) ?_
  refine qy (fun _ _ k9 => z_iadd d_L_law_1590 (by omega) k9) ?_
  refine qy (fun _ _ k9 => z_ild (i + 2) d_L_law_1591 (xr_1 he) (by omega) (by omega) k9) ?_
  refine qy (fun _ _ k9 => z_cv (M1 := M_X12_begun) d_L_law_1592 lv_L_173 k_X12_begun [qI (S (i + 1)), qI (S (i + 2))] rfl rfl rput_o ⟨_, _, rfl⟩ (Nat.le_of_ble_eq_true rfl) (by decide) (by decide) (Nat.le_of_ble_eq_true rfl) k2 k9) ?_
  refine qy (fun _ _ k9 => z_eq rfl rfl xput_rput.symm k9) ?_
  refine qy2 (fun _ _ => z_icmp_eq 1751 d_L_law_1595 (by decide)) (fun _ => kk F' G' f' g' hR') (fun q => absurd rfl q)
set_option maxRecDepth 20000 in
theorem lw_38 {n i : Nat} {S : Nat → Int} {h : qH} {F G : Nat → Nat → Int} {f : Nat → Int} {g : Nat → Nat → Int} {Q : Option qA → qH → Prop} (he : h.2.2 1 = qAr 0 n S) (hn : n ≤ 1000000) (hi : i + 6 ≤ n) (hS : ∀ j, R32 (S j)) (hq : R32 (F 172 4)) (hR : Rel F G f g) (kk : ∀ F' G' f' g', Rel F' G' f' g' → qEy M_L_law 1751 [qR 1, qR 2, qR 220, qI (i : Int)] [] (xput (rput h 220 f' g') F' G') Q) : qEy M_L_law 1600 [qR 1, qR 2, qR 220, qI (i : Int)] [] (xput (rput h 220 f g) F G) Q := by
  obtain ⟨v, F', G', f', g', hR', k1, k2⟩ := st_mixed (S (i + 1)) (S (i + 2)) h F G f g hR
  refine qy (fun _ _ k9 => z_aload_n d_L_law_1600 rfl rfl k9) ?_
  refine qy (fun _ _ k9 => z_aload_n d_L_law_1601 rfl rfl k9) ?_
  refine qy (fun _ _ k9 => z_iload_n d_L_law_1602 rfl rfl k9) ?_
  refine qy (fun _ _ k9 => z_iconst d_L_law_1603 (by decide) k9) ?_
  refine qy (fun _ _ k9 => z_iadd d_L_law_1604 (by omega) k9) ?_
  refine qy (fun _ _ k9 => z_ild (i + 1) d_L_law_1605 (xs_1 he) (by omega) (by omega) k9) ?_
  refine qy (fun _ _ k9 => z_aload_n d_L_law_1606 rfl rfl k9) ?_
  refine qy (fun _ _ k9 => z_iload_n d_L_law_1607 rfl rfl k9) ?_
  refine qy (fun _ _ k9 => z_iconst d_L_law_1608 (by decide) k9) ?_
  refine qy (fun _ _ k9 => z_iadd d_L_law_1609 (by omega) k9) ?_
  refine qy (fun _ _ k9 => z_ild (i + 2) d_L_law_1610 (xs_1 he) (by omega) (by omega) k9) ?_
  refine qy (fun _ _ k9 => z_cv (M1 := M_X11_mixed) d_L_law_1611 lv_L_174 k_X11_mixed [qI (S (i + 1)), qI (S (i + 2))] rfl rfl (xput_ob (c := F 2) xi_2 rfl (xsh_11 xo_2)) ⟨_, _, rfl⟩ (Nat.le_of_ble_eq_true rfl) (by decide) (by decide) (Nat.le_of_ble_eq_true rfl) k1 k9) ?_
  refine qy (fun _ _ k9 => z_eq rfl rfl xput_rput k9) ?_
  refine qy (fun _ _ k9 => z_aload_n d_L_law_1614 rfl rfl k9) ?_
  refine qy (fun _ _ k9 => z_aload_n d_L_law_1615 rfl rfl k9) ?_
  refine qy (fun _ _ k9 => z_iload_n d_L_law_1616 rfl rfl k9) ?_
  refine qy (fun _ _ k9 => z_iconst d_L_law_1617 (by decide) k9) ?_
  refine qy (fun _ _ k9 => z_iadd d_L_law_1618 (by omega) k9) ?_
  refine qy (fun _ _ k9 => z_ild (i + 1) d_L_law_1619 (xr_1 he) (by omega) (by omega) k9) ?_
  refine qy (fun _ _ k9 => z_aload_n d_L_law_1620 rfl rfl k9) ?_
  refine qy (fun _ _ k9 => z_iload_n d_L_law_1621 rfl rfl k9) ?_
  refine qy (fun _ _ k9 => z_iconst d_L_law_1622 (by decide) k9) ?_
  refine qy (fun _ _ k9 => z_iadd d_L_law_1623 (by omega) k9) ?_
  refine qy (fun _ _ k9 => z_ild (i + 2) d_L_law_1624 (xr_1 he) (by omega) (by omega) k9) ?_
  refine qy (fun _ _ k9 => z_cv (M1 := M_X12_mixed) d_L_law_1625 lv_L_177 k_X12_mixed [qI (S (i + 1)), qI (S (i + 2))] rfl rfl rput_o ⟨_, _, rfl⟩ (Nat.le_of_ble_eq_true rfl) (by decide) (by decide) (Nat.le_of_ble_eq_true rfl) k2 k9) ?_
  refine qy (fun _ _ k9 => z_eq rfl rfl xput_rput.symm k9) ?_
  refine qy2 (fun _ _ => z_icmp_eq 1751 d_L_law_1628 (by decide)) (fun _ => kk F' G' f' g' hR') (fun q => absurd rfl q)
set_option maxRecDepth 20000 in
theorem lw_39 {n i : Nat} {S : Nat → Int} {h : qH} {F G : Nat → Nat → Int} {f : Nat → Int} {g : Nat → Nat → Int} {Q : Option qA → qH → Prop} (he : h.2.2 1 = qAr 0 n S) (hn : n ≤ 1000000) (hi : i + 6 ≤ n) (hS : ∀ j, R32 (S j)) (hq : R32 (F 172 4)) (hR : Rel F G f g) (kk : ∀ F' G' f' g', Rel F' G' f' g' → qEy M_L_law 1751 [qR 1, qR 2, qR 220, qI (i : Int)] [] (xput (rput h 220 f' g') F' G') Q) : qEy M_L_law 1633 [qR 1, qR 2, qR 220, qI (i : Int)] [] (xput (rput h 220 f g) F G) Q := by
  obtain ⟨v, F', G', f', g', hR', k1, k2⟩ := st_unlike (S (i + 1)) (S (i + 2)) (S (i + 3)) h F G f g hR
  refine qy (fun _ _ k9 => z_aload_n d_L_law_1633 rfl rfl k9) ?_
  refine qy (fun _ _ k9 => z_aload_n d_L_law_1634 rfl rfl k9) ?_
  refine qy (fun _ _ k9 => z_iload_n d_L_law_1635 rfl rfl k9) ?_
  refine qy (fun _ _ k9 => z_iconst d_L_law_1636 (by decide) k9) ?_
  refine qy (fun _ _ k9 => z_iadd d_L_law_1637 (by omega) k9) ?_
  refine qy (fun _ _ k9 => z_ild (i + 1) d_L_law_1638 (xs_1 he) (by omega) (by omega) k9) ?_
  refine qy (fun _ _ k9 => z_aload_n d_L_law_1639 rfl rfl k9) ?_
  refine qy (fun _ _ k9 => z_iload_n d_L_law_1640 rfl rfl k9) ?_
  refine qy (fun _ _ k9 => z_iconst d_L_law_1641 (by decide) k9) ?_
  refine qy (fun _ _ k9 => z_iadd d_L_law_1642 (by omega) k9) ?_
  refine qy (fun _ _ k9 => z_ild (i + 2) d_L_law_1643 (xs_1 he) (by omega) (by omega) k9) ?_
  refine qy (fun _ _ k9 => z_aload_n d_L_law_1644 rfl rfl k9) ?_
  refine qy (fun _ _ k9 => z_iload_n d_L_law_1645 rfl rfl k9) ?_
  refine qy (fun _ _ k9 => z_iconst d_L_law_1646 (by decide) k9) ?_
  refine qy (fun _ _ k9 => z_iadd d_L_law_1647 (by omega) k9) ?_
  refine qy (fun _ _ k9 => z_ild (i + 3) d_L_law_1648 (xs_1 he) (by omega) (by omega) k9) ?_
  refine qy (fun _ _ k9 => z_cv (M1 := M_X11_unlike) d_L_law_1649 lv_L_178 k_X11_unlike [qI (S (i + 1)), qI (S (i + 2)), qI (S (i + 3))] rfl rfl (xput_ob (c := F 2) xi_2 rfl (xsh_11 xo_2)) ⟨_, _, rfl⟩ (Nat.le_of_ble_eq_true rfl) (by decide) (by decide) (Nat.le_of_ble_eq_true rfl) k1 k9) ?_
  refine qy (fun _ _ k9 => z_eq rfl rfl xput_rput k9) ?_
  refine qy (fun _ _ k9 => z_aload_n d_L_law_1652 rfl rfl k9) ?_
  refine qy (fun _ _ k9 => z_aload_n d_L_law_1653 rfl rfl k9) ?_
  refine qy (fun _ _ k9 => z_iload_n d_L_law_1654 rfl rfl k9) ?_
  refine qy (fun _ _ k9 => z_iconst d_L_law_1655 (by decide) k9) ?_
  refine qy (fun _ _ k9 => z_iadd d_L_law_1656 (by omega) k9) ?_
  refine qy (fun _ _ k9 => z_ild (i + 1) d_L_law_1657 (xr_1 he) (by omega) (by omega) k9) ?_
  refine qy (fun _ _ k9 => z_aload_n d_L_law_1658 rfl rfl k9) ?_
  refine qy (fun _ _ k9 => z_iload_n d_L_law_1659 rfl rfl k9) ?_
  refine qy (fun _ _ k9 => z_iconst d_L_law_1660 (by decide) k9) ?_
  refine qy (fun _ _ k9 => z_iadd d_L_law_1661 (by omega) k9) ?_
  refine qy (fun _ _ k9 => z_ild (i + 2) d_L_law_1662 (xr_1 he) (by omega) (by omega) k9) ?_
  refine qy (fun _ _ k9 => z_aload_n d_L_law_1663 rfl rfl k9) ?_
  refine qy (fun _ _ k9 => z_iload_n d_L_law_1664 rfl rfl k9) ?_
  refine qy (fun _ _ k9 => z_iconst d_L_law_1665 (by decide) k9) ?_
  refine qy (fun _ _ k9 => z_iadd d_L_law_1666 (by omega) k9) ?_
  refine qy (fun _ _ k9 => z_ild (i + 3) d_L_law_1667 (xr_1 he) (by omega) (by omega) k9) ?_
  refine qy (fun _ _ k9 => z_cv (M1 := M_X12_unlike) d_L_law_1668 lv_L_181 k_X12_unlike [qI (S (i + 1)), qI (S (i + 2)), qI (S (i + 3))] rfl rfl rput_o ⟨_, _, rfl⟩ (Nat.le_of_ble_eq_true rfl) (by decide) (by decide) (Nat.le_of_ble_eq_true rfl) k2 k9) ?_
  refine qy (fun _ _ k9 => z_eq rfl rfl xput_rput.symm k9) ?_
  refine qy2 (fun _ _ => z_icmp_eq 1751 d_L_law_1671 (by decide)) (fun _ => kk F' G' f' g' hR') (fun q => absurd rfl q)
set_option maxRecDepth 20000 in
theorem lw_40 {n i : Nat} {S : Nat → Int} {h : qH} {F G : Nat → Nat → Int} {f : Nat → Int} {g : Nat → Nat → Int} {Q : Option qA → qH → Prop} (he : h.2.2 1 = qAr 0 n S) (hn : n ≤ 1000000) (hi : i + 6 ≤ n) (hS : ∀ j, R32 (S j)) (hq : R32 (F 172 4)) (hR : Rel F G f g) (kk : ∀ F' G' f' g', Rel F' G' f' g' → qEy M_L_law 1751 [qR 1, qR 2, qR 220, qI (i : Int)] [] (xput (rput h 220 f' g') F' G') Q) : qEy M_L_law 1676 [qR 1, qR 2, qR 220, qI (i : Int)] [] (xput (rput h 220 f g) F G) Q := by
  obtain ⟨v, F', G', f', g', hR', k1, k2⟩ := st_undo  h F G f g hR
  refine qy (fun _ _ k9 => z_aload_n d_L_law_1676 rfl rfl k9) ?_
  refine qy (fun _ _ k9 => z_cv (M1 := M_X11_undo) d_L_law_1677 lv_L_182 k_X11_undo [] rfl rfl (xput_ob (c := F 2) xi_2 rfl (xsh_11 xo_2)) ⟨_, _, rfl⟩ (Nat.le_of_ble_eq_true rfl) (by decide) (by decide) (Nat.le_of_ble_eq_true rfl) k1 k9) ?_
  refine qy (fun _ _ k9 => z_eq rfl rfl xput_rput k9) ?_
  refine qy (fun _ _ k9 => z_aload_n d_L_law_1680 rfl rfl k9) ?_
  refine qy (fun _ _ k9 => z_cv (M1 := M_X12_undo) d_L_law_1681 lv_L_186 k_X12_undo [] rfl rfl rput_o ⟨_, _, rfl⟩ (Nat.le_of_ble_eq_true rfl) (by decide) (by decide) (Nat.le_of_ble_eq_true rfl) k2 k9) ?_
  refine qy (fun _ _ k9 => z_eq rfl rfl xput_rput.symm k9) ?_
  refine qy2 (fun _ _ => z_icmp_eq 1751 d_L_law_1684 (by decide)) (fun _ => kk F' G' f' g' hR') (fun q => absurd rfl q)
set_option maxRecDepth 20000 in
theorem lw_41 {n i : Nat} {S : Nat → Int} {h : qH} {F G : Nat → Nat → Int} {f : Nat → Int} {g : Nat → Nat → Int} {Q : Option qA → qH → Prop} (he : h.2.2 1 = qAr 0 n S) (hn : n ≤ 1000000) (hi : i + 6 ≤ n) (hS : ∀ j, R32 (S j)) (hq : R32 (F 172 4)) (hR : Rel F G f g) (kk : ∀ F' G' f' g', Rel F' G' f' g' → qEy M_L_law 1751 [qR 1, qR 2, qR 220, qI (i : Int)] [] (xput (rput h 220 f' g') F' G') Q) : qEy M_L_law 1689 [qR 1, qR 2, qR 220, qI (i : Int)] [] (xput (rput h 220 f g) F G) Q := by
  by_cases hz : S (i + 1) = 0
  · obtain ⟨v, F', G', f', g', hR', k1, k2⟩ := st_image 0 (Or.inl rfl) h F G f g hR
    refine qy (fun _ _ k9 => z_aload_n d_L_law_1689 rfl rfl k9) ?_
    refine qy (fun _ _ k9 => z_aload_n d_L_law_1690 rfl rfl k9) ?_
    refine qy (fun _ _ k9 => z_iload_n d_L_law_1691 rfl rfl k9) ?_
    refine qy (fun _ _ k9 => z_iconst d_L_law_1692 (by decide) k9) ?_
    refine qy (fun _ _ k9 => z_iadd d_L_law_1693 (by omega) k9) ?_
    refine qy (fun _ _ k9 => z_ild (i + 1) d_L_law_1694 (xs_1 he) (by omega) (by omega) k9) ?_
    refine qy2 (fun _ _ => z_if_eq 1702 d_L_law_1695 (by decide)) (fun _ => ?_) (fun q => absurd hz q)
    refine qy (fun _ _ k9 => z_iconst d_L_law_1702 (by decide) k9) ?_
    refine qy (fun _ _ k9 => z_cv (M1 := M_X11_image) d_L_law_1703 lv_L_187 k_X11_image [qI 0] rfl rfl (xput_ob (c := F 2) xi_2 rfl (xsh_11 xo_2)) ⟨_, _, rfl⟩ (Nat.le_of_ble_eq_true rfl) (by decide) (by decide) (Nat.le_of_ble_eq_true rfl) k1 k9) ?_
    refine qy (fun _ _ k9 => z_eq rfl rfl xput_rput k9) ?_
    refine qy (fun _ _ k9 => z_aload_n d_L_law_1706 rfl rfl k9) ?_
    refine qy (fun _ _ k9 => z_aload_n d_L_law_1707 rfl rfl k9) ?_
    refine qy (fun _ _ k9 => z_iload_n d_L_law_1708 rfl rfl k9) ?_
    refine qy (fun _ _ k9 => z_iconst d_L_law_1709 (by decide) k9) ?_
    refine qy (fun _ _ k9 => z_iadd d_L_law_1710 (by omega) k9) ?_
    refine qy (fun _ _ k9 => z_ild (i + 1) d_L_law_1711 (xr_1 he) (by omega) (by omega) k9) ?_
    refine qy2 (fun _ _ => z_if_eq 1719 d_L_law_1712 (by decide)) (fun _ => ?_) (fun q => absurd hz q)
    refine qy (fun _ _ k9 => z_iconst d_L_law_1719 (by decide) k9) ?_
    refine qy (fun _ _ k9 => z_cv (M1 := M_X12_image) d_L_law_1720 lv_L_191 k_X12_image [qI 0] rfl rfl rput_o ⟨_, _, rfl⟩ (Nat.le_of_ble_eq_true rfl) (by decide) (by decide) (Nat.le_of_ble_eq_true rfl) k2 k9) ?_
    refine qy (fun _ _ k9 => z_eq rfl rfl xput_rput.symm k9) ?_
    refine qy2 (fun _ _ => z_icmp_eq 1751 d_L_law_1723 (by decide)) (fun _ => kk F' G' f' g' hR') (fun q => absurd rfl q)
  · obtain ⟨v, F', G', f', g', hR', k1, k2⟩ := st_image 1 (Or.inr rfl) h F G f g hR
    refine qy (fun _ _ k9 => z_aload_n d_L_law_1689 rfl rfl k9) ?_
    refine qy (fun _ _ k9 => z_aload_n d_L_law_1690 rfl rfl k9) ?_
    refine qy (fun _ _ k9 => z_iload_n d_L_law_1691 rfl rfl k9) ?_
    refine qy (fun _ _ k9 => z_iconst d_L_law_1692 (by decide) k9) ?_
    refine qy (fun _ _ k9 => z_iadd d_L_law_1693 (by omega) k9) ?_
    refine qy (fun _ _ k9 => z_ild (i + 1) d_L_law_1694 (xs_1 he) (by omega) (by omega) k9) ?_
    refine qy2 (fun _ _ => z_if_eq 1702 d_L_law_1695 (by decide)) (fun q => absurd q hz) (fun _ => ?_)
    refine qy (fun _ _ k9 => z_iconst d_L_law_1698 (by decide) k9) ?_
    refine qy (fun _ _ k9 => z_goto 1703 d_L_law_1699 (by decide) k9) ?_
    refine qy (fun _ _ k9 => z_cv (M1 := M_X11_image) d_L_law_1703 lv_L_187 k_X11_image [qI 1] rfl rfl (xput_ob (c := F 2) xi_2 rfl (xsh_11 xo_2)) ⟨_, _, rfl⟩ (Nat.le_of_ble_eq_true rfl) (by decide) (by decide) (Nat.le_of_ble_eq_true rfl) k1 k9) ?_
    refine qy (fun _ _ k9 => z_eq rfl rfl xput_rput k9) ?_
    refine qy (fun _ _ k9 => z_aload_n d_L_law_1706 rfl rfl k9) ?_
    refine qy (fun _ _ k9 => z_aload_n d_L_law_1707 rfl rfl k9) ?_
    refine qy (fun _ _ k9 => z_iload_n d_L_law_1708 rfl rfl k9) ?_
    refine qy (fun _ _ k9 => z_iconst d_L_law_1709 (by decide) k9) ?_
    refine qy (fun _ _ k9 => z_iadd d_L_law_1710 (by omega) k9) ?_
    refine qy (fun _ _ k9 => z_ild (i + 1) d_L_law_1711 (xr_1 he) (by omega) (by omega) k9) ?_
    refine qy2 (fun _ _ => z_if_eq 1719 d_L_law_1712 (by decide)) (fun q => absurd q hz) (fun _ => ?_)
    refine qy (fun _ _ k9 => z_iconst d_L_law_1715 (by decide) k9) ?_
    refine qy (fun _ _ k9 => z_goto 1720 d_L_law_1716 (by decide) k9) ?_
    refine qy (fun _ _ k9 => z_cv (M1 := M_X12_image) d_L_law_1720 lv_L_191 k_X12_image [qI 1] rfl rfl rput_o ⟨_, _, rfl⟩ (Nat.le_of_ble_eq_true rfl) (by decide) (by decide) (Nat.le_of_ble_eq_true rfl) k2 k9) ?_
    refine qy (fun _ _ k9 => z_eq rfl rfl xput_rput.symm k9) ?_
    refine qy2 (fun _ _ => z_icmp_eq 1751 d_L_law_1723 (by decide)) (fun _ => kk F' G' f' g' hR') (fun q => absurd rfl q)
set_option maxRecDepth 20000 in
theorem lw_42 {n i : Nat} {S : Nat → Int} {h : qH} {F G : Nat → Nat → Int} {f : Nat → Int} {g : Nat → Nat → Int} {Q : Option qA → qH → Prop} (he : h.2.2 1 = qAr 0 n S) (hn : n ≤ 1000000) (hi : i + 6 ≤ n) (hS : ∀ j, R32 (S j)) (hq : R32 (F 172 4)) (hR : Rel F G f g) (kk : ∀ F' G' f' g', Rel F' G' f' g' → qEy M_L_law 1751 [qR 1, qR 2, qR 220, qI (i : Int)] [] (xput (rput h 220 f' g') F' G') Q) : qEy M_L_law 1728 [qR 1, qR 2, qR 220, qI (i : Int)] [] (xput (rput h 220 f g) F G) Q := by
  obtain ⟨v, F', G', f', g', hR', k1, k2⟩ := st_look (S (i + 1)) h F G f g hR
  refine qy (fun _ _ k9 => z_aload_n d_L_law_1728 rfl rfl k9) ?_
  refine qy (fun _ _ k9 => z_aload_n d_L_law_1729 rfl rfl k9) ?_
  refine qy (fun _ _ k9 => z_iload_n d_L_law_1730 rfl rfl k9) ?_
  refine qy (fun _ _ k9 => z_iconst d_L_law_1731 (by decide) k9) ?_
  refine qy (fun _ _ k9 => z_iadd d_L_law_1732 (by omega) k9) ?_
  refine qy (fun _ _ k9 => z_ild (i + 1) d_L_law_1733 (xs_1 he) (by omega) (by omega) k9) ?_
  refine qy (fun _ _ k9 => z_cv (M1 := M_X11_look) d_L_law_1734 lv_L_192 k_X11_look [qI (S (i + 1))] rfl rfl (xput_ob (c := F 2) xi_2 rfl (xsh_11 xo_2)) ⟨_, _, rfl⟩ (Nat.le_of_ble_eq_true rfl) (by decide) (by decide) (Nat.le_of_ble_eq_true rfl) k1 k9) ?_
  refine qy (fun _ _ k9 => z_eq rfl rfl xput_rput k9) ?_
  refine qy (fun _ _ k9 => z_aload_n d_L_law_1737 rfl rfl k9) ?_
  refine qy (fun _ _ k9 => z_aload_n d_L_law_1738 rfl rfl k9) ?_
  refine qy (fun _ _ k9 => z_iload_n d_L_law_1739 rfl rfl k9) ?_
  refine qy (fun _ _ k9 => z_iconst d_L_law_1740 (by decide) k9) ?_
  refine qy (fun _ _ k9 => z_iadd d_L_law_1741 (by omega) k9) ?_
  refine qy (fun _ _ k9 => z_ild (i + 1) d_L_law_1742 (xr_1 he) (by omega) (by omega) k9) ?_
  refine qy (fun _ _ k9 => z_cv (M1 := M_X12_look) d_L_law_1743 lv_L_195 k_X12_look [qI (S (i + 1))] rfl rfl rput_o ⟨_, _, rfl⟩ (Nat.le_of_ble_eq_true rfl) (by decide) (by decide) (Nat.le_of_ble_eq_true rfl) k2 k9) ?_
  refine qy (fun _ _ k9 => z_eq rfl rfl xput_rput.symm k9) ?_
  refine qy2 (fun _ _ => z_icmp_eq 1751 d_L_law_1746 (by decide)) (fun _ => kk F' G' f' g' hR') (fun q => absurd rfl q)
theorem q_hd (a : Nat → Int) (b : Nat → Int) : True := trivial
set_option maxRecDepth 20000 in
theorem lw_loop {n : Nat} {S : Nat → Int} {h : qH} {F G : Nat → Nat → Int} {f : Nat → Int} {g : Nat → Nat → Int} {Q : Option qA → qH → Prop} (he : h.2.2 1 = qAr 0 n S) (hn : n ≤ 1000000) (hS : ∀ j, R32 (S j)) (hR : Rel F G f g) (hQ : ∀ F' G' f' g', Q (some (qI 1)) (xput (rput h 220 f' g') F' G')) : qEy M_L_law 18 [qR 1, qR 2, qR 220, qI 0] [] (xput (rput h 220 f g) F G) Q := by
  refine y_wh (X := Nat × (Nat → Nat → Int) × (Nat → Nat → Int) × (Nat → Int) × (Nat → Nat → Int)) (fun x => n + 6 - x.1) (fun x => [qR 1, qR 2, qR 220, qI ((x.1 : Nat) : Int)]) (fun x => xput (rput h 220 x.2.2.2.1 x.2.2.2.2) x.2.1 x.2.2.1) (fun x => x.1 ≤ n + 5 ∧ Rel x.2.1 x.2.2.1 x.2.2.2.1 x.2.2.2.2) (0, F, G, f, g) ⟨Nat.zero_le _, hR⟩ (fun x hx kk => ?_)
  obtain ⟨i, F, G, f, g⟩ := x
  obtain ⟨hi5, hR⟩ := hx
  have hi5 : i ≤ n + 5 := hi5
  have hR : Rel F G f g := hR
  show qEy M_L_law 18 [qR 1, qR 2, qR 220, qI (i : Int)] [] (xput (rput h 220 f g) F G) Q
  refine y_rc ⟨_, hQ F G f g⟩ (fun hc => ?_)
  have hq : R32 (F 172 4) := by
    have := hc 172
    rw [xput_ob (c := F 172) xi_172 rfl (xsh_9 xo_172)] at this
    exact this (qI (F 172 4)) (by simp)
  have k7 : i + 6 ≤ n → ∀ F' G' f' g', Rel F' G' f' g' → qEy M_L_law 1751 [qR 1, qR 2, qR 220, qI (i : Int)] [] (xput (rput h 220 f' g') F' G') Q := fun h6 F' G' f' g' hR' => by
    refine qy (fun _ _ k9 => z_iinc (ls' := [qR 1, qR 2, qR 220, qI (((i + 6 : Nat)) : Int)]) d_L_law_1751 rfl (by decide) (by omega) rfl k9) ?_
    refine qy (fun _ _ k9 => z_goto 18 d_L_law_1754 (by decide) k9) ?_
    exact kk (i + 6, F', G', f', g') ⟨by show i + 6 ≤ n + 5; omega, hR'⟩ (by show n + 6 - (i + 6) < n + 6 - i; omega)
  refine qy (fun _ _ k9 => z_iload_n d_L_law_18 rfl rfl k9) ?_
  refine qy (fun _ _ k9 => z_aload_n d_L_law_19 rfl rfl k9) ?_
  refine qy (fun _ _ k9 => z_alen d_L_law_20 (xs_1 he) hn k9) ?_
  refine qy (fun _ _ k9 => z_bipush d_L_law_21 (by decide) k9) ?_
  refine qy (fun _ _ k9 => z_isub d_L_law_23 (by omega) k9) ?_
  refine qy2 (fun _ _ => z_icmp_gt 1757 d_L_law_24 (by decide)) (fun c => ?_) (fun c => ?_)
  · refine qy (fun _ _ k9 => z_iconst d_L_law_1757 (by decide) k9) ?_
    exact y_ret (hQ F G f g) (z_zret d_L_law_1758 rfl (by decide) rfl rfl)
  · have h6 : i + 6 ≤ n := by omega
    refine qy (fun _ _ k9 => z_aload_n d_L_law_27 rfl rfl k9) ?_
    refine qy (fun _ _ k9 => z_iload_n d_L_law_28 rfl rfl k9) ?_
    refine qy (fun _ _ k9 => z_ild i d_L_law_29 (xs_1 he) rfl (by omega) k9) ?_
    refine qy (fun _ _ k9 => z_bipush d_L_law_30 (by decide) k9) ?_
    refine qy (fun _ _ k9 => z_iand d_L_law_32 k9) ?_
    have hb := and63 (S i)
    generalize qAnd (S i) 63 = x at hb ⊢
    by_cases hx : x ≤ 42
    · obtain rfl | rfl | rfl | rfl | rfl | rfl | rfl | rfl | rfl | rfl | rfl | rfl | rfl | rfl | rfl | rfl | rfl | rfl | rfl | rfl | rfl | rfl | rfl | rfl | rfl | rfl | rfl | rfl | rfl | rfl | rfl | rfl | rfl | rfl | rfl | rfl | rfl | rfl | rfl | rfl | rfl | rfl | rfl : x = 0 ∨ x = 1 ∨ x = 2 ∨ x = 3 ∨ x = 4 ∨ x = 5 ∨ x = 6 ∨ x = 7 ∨ x = 8 ∨ x = 9 ∨ x = 10 ∨ x = 11 ∨ x = 12 ∨ x = 13 ∨ x = 14 ∨ x = 15 ∨ x = 16 ∨ x = 17 ∨ x = 18 ∨ x = 19 ∨ x = 20 ∨ x = 21 ∨ x = 22 ∨ x = 23 ∨ x = 24 ∨ x = 25 ∨ x = 26 ∨ x = 27 ∨ x = 28 ∨ x = 29 ∨ x = 30 ∨ x = 31 ∨ x = 32 ∨ x = 33 ∨ x = 34 ∨ x = 35 ∨ x = 36 ∨ x = 37 ∨ x = 38 ∨ x = 39 ∨ x = 40 ∨ x = 41 ∨ x = 42 := by omega
      · refine qy (fun _ _ k9 => z_tableIn 220 d_L_law_33 (by decide) (by decide) (off := 187) rfl (by decide) k9) ?_
        exact lw_0 he hn h6 hS hq hR (k7 h6)
      · refine qy (fun _ _ k9 => z_tableIn 269 d_L_law_33 (by decide) (by decide) (off := 236) rfl (by decide) k9) ?_
        exact lw_1 he hn h6 hS hq hR (k7 h6)
      · refine qy (fun _ _ k9 => z_tableIn 312 d_L_law_33 (by decide) (by decide) (off := 279) rfl (by decide) k9) ?_
        exact lw_2 he hn h6 hS hq hR (k7 h6)
      · refine qy (fun _ _ k9 => z_tableIn 335 d_L_law_33 (by decide) (by decide) (off := 302) rfl (by decide) k9) ?_
        exact lw_3 he hn h6 hS hq hR (k7 h6)
      · refine qy (fun _ _ k9 => z_tableIn 398 d_L_law_33 (by decide) (by decide) (off := 365) rfl (by decide) k9) ?_
        exact lw_4 he hn h6 hS hq hR (k7 h6)
      · refine qy (fun _ _ k9 => z_tableIn 421 d_L_law_33 (by decide) (by decide) (off := 388) rfl (by decide) k9) ?_
        exact lw_5 he hn h6 hS hq hR (k7 h6)
      · refine qy (fun _ _ k9 => z_tableIn 444 d_L_law_33 (by decide) (by decide) (off := 411) rfl (by decide) k9) ?_
        exact lw_6 he hn h6 hS hq hR (k7 h6)
      · refine qy (fun _ _ k9 => z_tableIn 467 d_L_law_33 (by decide) (by decide) (off := 434) rfl (by decide) k9) ?_
        exact lw_7 he hn h6 hS hq hR (k7 h6)
      · refine qy (fun _ _ k9 => z_tableIn 500 d_L_law_33 (by decide) (by decide) (off := 467) rfl (by decide) k9) ?_
        exact lw_8 he hn h6 hS hq hR (k7 h6)
      · refine qy (fun _ _ k9 => z_tableIn 553 d_L_law_33 (by decide) (by decide) (off := 520) rfl (by decide) k9) ?_
        exact lw_9 he hn h6 hS hq hR (k7 h6)
      · refine qy (fun _ _ k9 => z_tableIn 586 d_L_law_33 (by decide) (by decide) (off := 553) rfl (by decide) k9) ?_
        exact lw_10 he hn h6 hS hq hR (k7 h6)
      · refine qy (fun _ _ k9 => z_tableIn 629 d_L_law_33 (by decide) (by decide) (off := 596) rfl (by decide) k9) ?_
        exact lw_11 he hn h6 hS hq hR (k7 h6)
      · refine qy (fun _ _ k9 => z_tableIn 662 d_L_law_33 (by decide) (by decide) (off := 629) rfl (by decide) k9) ?_
        exact lw_12 he hn h6 hS hq hR (k7 h6)
      · refine qy (fun _ _ k9 => z_tableIn 705 d_L_law_33 (by decide) (by decide) (off := 672) rfl (by decide) k9) ?_
        exact lw_13 he hn h6 hS hq hR (k7 h6)
      · refine qy (fun _ _ k9 => z_tableIn 738 d_L_law_33 (by decide) (by decide) (off := 705) rfl (by decide) k9) ?_
        exact lw_14 he hn h6 hS hq hR (k7 h6)
      · refine qy (fun _ _ k9 => z_tableIn 771 d_L_law_33 (by decide) (by decide) (off := 738) rfl (by decide) k9) ?_
        exact lw_15 he hn h6 hS hq hR (k7 h6)
      · refine qy (fun _ _ k9 => z_tableIn 804 d_L_law_33 (by decide) (by decide) (off := 771) rfl (by decide) k9) ?_
        exact lw_16 he hn h6 hS hq hR (k7 h6)
      · refine qy (fun _ _ k9 => z_tableIn 837 d_L_law_33 (by decide) (by decide) (off := 804) rfl (by decide) k9) ?_
        exact lw_17 he hn h6 hS hq hR (k7 h6)
      · refine qy (fun _ _ k9 => z_tableIn 870 d_L_law_33 (by decide) (by decide) (off := 837) rfl (by decide) k9) ?_
        exact lw_18 he hn h6 hS hq hR (k7 h6)
      · refine qy (fun _ _ k9 => z_tableIn 913 d_L_law_33 (by decide) (by decide) (off := 880) rfl (by decide) k9) ?_
        exact lw_19 he hn h6 hS hq hR (k7 h6)
      · refine qy (fun _ _ k9 => z_tableIn 956 d_L_law_33 (by decide) (by decide) (off := 923) rfl (by decide) k9) ?_
        exact lw_20 he hn h6 hS hq hR (k7 h6)
      · refine qy (fun _ _ k9 => z_tableIn 979 d_L_law_33 (by decide) (by decide) (off := 946) rfl (by decide) k9) ?_
        exact lw_21 he hn h6 hS hq hR (k7 h6)
      · refine qy (fun _ _ k9 => z_tableIn 992 d_L_law_33 (by decide) (by decide) (off := 959) rfl (by decide) k9) ?_
        exact lw_22 he hn h6 hS hq hR (k7 h6)
      · refine qy (fun _ _ k9 => z_tableIn 1025 d_L_law_33 (by decide) (by decide) (off := 992) rfl (by decide) k9) ?_
        exact lw_23 he hn h6 hS hq hR (k7 h6)
      · refine qy (fun _ _ k9 => z_tableIn 1078 d_L_law_33 (by decide) (by decide) (off := 1045) rfl (by decide) k9) ?_
        exact lw_24 he hn h6 hS hq hR (k7 h6)
      · refine qy (fun _ _ k9 => z_tableIn 1131 d_L_law_33 (by decide) (by decide) (off := 1098) rfl (by decide) k9) ?_
        exact lw_25 he hn h6 hS hq hR (k7 h6)
      · refine qy (fun _ _ k9 => z_tableIn 1144 d_L_law_33 (by decide) (by decide) (off := 1111) rfl (by decide) k9) ?_
        exact lw_26 he hn h6 hS hq hR (k7 h6)
      · refine qy (fun _ _ k9 => z_tableIn 1167 d_L_law_33 (by decide) (by decide) (off := 1134) rfl (by decide) k9) ?_
        exact lw_27 he hn h6 hS hq hR (k7 h6)
      · refine qy (fun _ _ k9 => z_tableIn 1210 d_L_law_33 (by decide) (by decide) (off := 1177) rfl (by decide) k9) ?_
        exact lw_28 he hn h6 hS hq hR (k7 h6)
      · refine qy (fun _ _ k9 => z_tableIn 1233 d_L_law_33 (by decide) (by decide) (off := 1200) rfl (by decide) k9) ?_
        exact lw_29 he hn h6 hS hq hR (k7 h6)
      · refine qy (fun _ _ k9 => z_tableIn 1256 d_L_law_33 (by decide) (by decide) (off := 1223) rfl (by decide) k9) ?_
        exact lw_30 he hn h6 hS hq hR (k7 h6)
      · refine qy (fun _ _ k9 => z_tableIn 1279 d_L_law_33 (by decide) (by decide) (off := 1246) rfl (by decide) k9) ?_
        exact lw_31 he hn h6 hS hq hR (k7 h6)
      · refine qy (fun _ _ k9 => z_tableIn 1332 d_L_law_33 (by decide) (by decide) (off := 1299) rfl (by decide) k9) ?_
        exact lw_32 he hn h6 hS hq hR (k7 h6)
      · refine qy (fun _ _ k9 => z_tableIn 1375 d_L_law_33 (by decide) (by decide) (off := 1342) rfl (by decide) k9) ?_
        exact lw_33 he hn h6 hS hq hR (k7 h6)
      · refine qy (fun _ _ k9 => z_tableIn 1428 d_L_law_33 (by decide) (by decide) (off := 1395) rfl (by decide) k9) ?_
        exact lw_34 he hn h6 hS hq hR (k7 h6)
      · refine qy (fun _ _ k9 => z_tableIn 1471 d_L_law_33 (by decide) (by decide) (off := 1438) rfl (by decide) k9) ?_
        exact lw_35 he hn h6 hS hq hR (k7 h6)
      · refine qy (fun _ _ k9 => z_tableIn 1514 d_L_law_33 (by decide) (by decide) (off := 1481) rfl (by decide) k9) ?_
        exact lw_36 he hn h6 hS hq hR (k7 h6)
      · refine qy (fun _ _ k9 => z_tableIn 1567 d_L_law_33 (by decide) (by decide) (off := 1534) rfl (by decide) k9) ?_
        exact lw_37 he hn h6 hS hq hR (k7 h6)
      · refine qy (fun _ _ k9 => z_tableIn 1600 d_L_law_33 (by decide) (by decide) (off := 1567) rfl (by decide) k9) ?_
        exact lw_38 he hn h6 hS hq hR (k7 h6)
      · refine qy (fun _ _ k9 => z_tableIn 1633 d_L_law_33 (by decide) (by decide) (off := 1600) rfl (by decide) k9) ?_
        exact lw_39 he hn h6 hS hq hR (k7 h6)
      · refine qy (fun _ _ k9 => z_tableIn 1676 d_L_law_33 (by decide) (by decide) (off := 1643) rfl (by decide) k9) ?_
        exact lw_40 he hn h6 hS hq hR (k7 h6)
      · refine qy (fun _ _ k9 => z_tableIn 1689 d_L_law_33 (by decide) (by decide) (off := 1656) rfl (by decide) k9) ?_
        exact lw_41 he hn h6 hS hq hR (k7 h6)
      · refine qy (fun _ _ k9 => z_tableIn 1728 d_L_law_33 (by decide) (by decide) (off := 1695) rfl (by decide) k9) ?_
        exact lw_42 he hn h6 hS hq hR (k7 h6)
    · refine qy (fun _ _ k9 => z_tableOut 1751 d_L_law_33 (Or.inr (by omega)) (by decide) k9) ?_
      exact k7 h6 F G f g hR
