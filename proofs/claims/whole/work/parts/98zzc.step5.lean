/-! ===== STEPS, fifth batch: the image ===== -/
theorem rlP_cg {C C1 : Nat → Int} (hC : ∀ j, j < 4 → C1 j = C j) {i : Nat} (hi : i < 96) : rlP C1 i ↔ rlP C i := by
  unfold rlP
  rw [hC _ (by omega)]
theorem bkR_pt {F G : Nat → Nat → Int} {b : Nat} {R C R1 C1 : Nat → Int} (h : bkR F G b R C) (hR : ∀ j, j < 384 → R1 j = R j) (hC : ∀ j, j < 4 → C1 j = C j) : bkR F G b R1 C1 := fun k hk => by
  rw [hC k hk]
  exact pgR_R (h k hk) (fun j hj => (hR _ (by omega)).symm)
theorem bkOk_pt {R C R1 C1 : Nat → Int} (h : bkOk R C) (hR : ∀ j, j < 384 → R1 j = R j) (hC : ∀ j, j < 4 → C1 j = C j) : bkOk R1 C1 := fun i hi hc => by
  rw [hR _ (by omega)]
  exact h i hi (by rw [← hC _ (by omega)]; exact hc)
theorem bkB_pt {R C R1 C1 : Nat → Int} (h : bkB R C) (hR : ∀ j, j < 384 → R1 j = R j) (hC : ∀ j, j < 4 → C1 j = C j) : bkB R1 C1 := fun i hi hc m hm => by
  rw [hR _ (by omega)]
  exact h i hi ((rlP_cg hC hi).mp hc) m hm
theorem stG_pt {F G : Nat → Nat → Int} {s : Nat} {R C R' C' R1 C1 R1' C1' : Nat → Int} {fp ft fm : Int} {PL A N LG MK PL1 A1 N1 LG1 MK1 : Nat → Int} (h : stG F G s R C R' C' fp ft fm PL A N LG MK) (hR : ∀ j, j < 384 → R1 j = R j) (hC : ∀ j, j < 4 → C1 j = C j) (hR' : ∀ j, j < 384 → R1' j = R' j) (hC' : ∀ j, j < 4 → C1' j = C' j) (hP : ∀ j, j < 64 → PL1 j = PL j) (hA : ∀ j, j < 16 → A1 j = A j) (hN : ∀ j, j < 167 → N1 j = N j) (hG : ∀ j, j < 600 → LG1 j = LG j) (hK : ∀ j, j < 32 → MK1 j = MK j) : stG F G s R1 C1 R1' C1' fp ft fm PL1 A1 N1 LG1 MK1 := by
  obtain ⟨pl, tl, ll, ml, TL, ⟨⟨⟨s1, s2, s3⟩, s4, s5, s6, s7, s8, s9⟩, s10⟩, ⟨n1, n2, n3, n4⟩, ⟨t1, t2⟩, ⟨o1, o2, o3, o4, o5⟩, ⟨q1, q3⟩, q2⟩ := h
  have b166 := rw_at o3 (j := 166) (by decide) (a := 0) (b := 150) rfl rfl
  have pl16 := q1.1
  have ml8 := q2.1
  refine ⟨pl, tl, ll, ml, TL, ⟨⟨⟨bkR_pt s1 hR hC, fun j hj => ?_, fun j hj => ?_⟩, bkR_pt s4 hR' hC', ⟨s5.1, s5.2.1, fun j hj => ?_⟩, s6, wlR_N s7 (fun j hj => (hN j (by omega)).symm), ⟨s8.1, s8.2.1, fun j hj => ?_⟩, ⟨s9.1, s9.2.1, fun j hj => ?_⟩⟩, fun j hj => ?_⟩, ⟨n1, n2, by rw [hN 166 (by decide)]; exact n3, n4⟩, ⟨t1, fun k hk => by rw [hA k hk]; exact t2 k hk⟩, ⟨bkOk_pt o1 hR hC, bkOk_pt o2 hR' hC', rwOk_cg o3 hN, bkB_pt o4 hR hC, bkB_pt o5 hR' hC'⟩, ⟨⟨pl16, fun i hi => ?_⟩, fun i hi => ?_⟩, ml8, fun i hi => ?_⟩
  · rw [s2 j hj]; exact (bkTc_cg hR hC j).symm
  · rw [s3 j hj]; exact (bkFc_cg hR hC j).symm
  · rw [hP j (by omega)]; exact s5.2.2 j hj
  · rw [hG j (by omega)]; exact s8.2.2 j hj
  · rw [hK j (by omega)]; exact s9.2.2 j hj
  · rw [s10 j hj]; exact (bkTc_cg hR' hC' j).symm
  · rw [hP _ (by omega), hP _ (by omega), hP _ (by omega)]; exact q1.2 i hi
  · rw [hP _ (by omega), hP _ (by omega)]; exact q3 i hi
  · rw [hK _ (by omega), hK _ (by omega), hK _ (by omega), hK _ (by omega)]; exact q2.2 i hi
theorem psR_0 {F G F' G' g g' : Nat → Nat → Int} {b : Nat} (h : psR F G g b) (e : F' 127 = qup (F 127) 3 0) : psR F' G' g' 0 := by
  obtain ⟨l, ⟨h1, h2, h3, h4⟩, _⟩ := h
  exact ⟨l, ⟨h1, by rw [e, qup_ne (by decide)]; exact h2, by rw [e, qup_eq]; rfl, by decide⟩, fun t ht => absurd ht (by omega)⟩
theorem st_image (what : Int) (hw : what = 0 ∨ what = 1) : Stq M_X11_image M_X12_image [qI what] [qI what] := by
  intro h F G f g hR
  show StA _ _ _ _ h F G f g
  rcases hw with rfl | rfl
  · by_cases z : f 40 = 0
    · exact sa_n hR (fun h => xc_image0no (hR.2.2.2.1.1.trans z)) (fun h => c_image0no (by decide) hR.1 z)
    · obtain ⟨i1, i2⟩ := hR.2.2.2.1
      obtain ⟨z1, z2⟩ := i2.resolve_left z
      obtain ⟨pl, tl, ll, ml, TL, ⟨m1, m2⟩, m3⟩ := z2
      have o3 := m3.2.2.1.2.2.1
      have b161 := rw_at o3 (j := 161) (by decide) (a := 0) (b := 1) rfl rfl
      obtain ⟨F', G', ⟨e1, e2, e3, e4, e5⟩, k⟩ := xc_img0 (h := rput h 220 f g) m1 (by omega) (i1.trans z1)
      refine ⟨1, F', G', _, _, ?_, k, c_image0 (by decide) hR.1 z1⟩
      have E : ∀ a, (a < 3 ∨ 64 < a) → a ≠ 127 → F' a = F a ∧ G' a = G a := e1
      have st := stG_pt (show stG F' G' 3 (g 21) (g 17) (g 22) (g 18) (f 37) (f 38) (f 39) (g 23) (g 19) (g 16) (g 20) (g 24) from ⟨pl, tl, ll, ml, TL, ⟨e4, fun j hj => (e5 j hj).trans (m2 j hj)⟩, m3⟩) (R1 := qmx 384 (g 21) (g 2)) (C1 := qmx 4 (g 17) (g 5)) (R1' := qmx 384 (g 22) (g 3)) (C1' := qmx 4 (g 18) (g 6)) (PL1 := qmx 64 (g 23) (g 7)) (A1 := qmx 16 (g 19) (g 9)) (N1 := qmx 167 (g 16) (g 11)) (LG1 := qmx 600 (g 20) (g 13)) (MK1 := qmx 32 (g 24) (g 15)) (fun j hj => qmx_lt hj) (fun j hj => qmx_lt hj) (fun j hj => qmx_lt hj) (fun j hj => qmx_lt hj) (fun j hj => qmx_lt hj) (fun j hj => qmx_lt hj) (fun j hj => qmx_lt hj) (fun j hj => qmx_lt hj) (fun j hj => qmx_lt hj)
      obtain ⟨b, ⟨p1, p2, p3⟩, _⟩ := hR.2.2.2.2.1
      refine ⟨hR.1, st, kp_rd hR.2.2.1 (E 160 (by decide) (by decide)).1 (E 161 (by decide) (by decide)).2 (E 170 (by decide) (by decide)).1 ⟨rfl, rfl, rfl⟩ rfl, kp_im hR.2.2.2.1 (by rw [(E 2 (by decide) (by decide)).1]) (fun a h1 h2 => E a (by omega) (by omega)) (fun k h1 h2 => ?_) (fun j h1 h2 => ?_), ⟨0, ⟨rfl, by decide, psR_0 p3 e3⟩, fun t ht => absurd ht (by omega), fun t ht => absurd ht (by omega), fun hb => absurd hb (by omega)⟩, kp_th hR.2.2.2.2.2.1 (E 183 (by decide) (by decide)).2 (E 184 (by decide) (by decide)).2, by rw [(E 216 (by decide) (by decide)).1]; exact hR.2.2.2.2.2.2⟩
      · rw [qup_ne (by omega), qup_ne (by omega), qup_ne (by omega), qup_ne (by omega)]
      · rw [gup_ne (by omega), gup_ne (by omega), gup_ne (by omega), gup_ne (by omega), gup_ne (by omega), gup_ne (by omega), gup_ne (by omega), gup_ne (by omega), gup_ne (by omega)]
  · obtain ⟨pl, tl, ll, ml, TL, ⟨m1, m2⟩, m3⟩ := hR.2.1
    have b161 := rw_at (rl_N hR) (j := 161) (by decide) (a := 0) (b := 1) rfl rfl
    obtain ⟨F', G', ⟨e1, e2, e3, e4, e5, e6⟩, k⟩ := xc_img1 (h := rput h 220 f g) m1 (by omega)
    refine ⟨1, F', G', _, _, ?_, k, c_image1 (by decide) hR.1⟩
    have E : ∀ a, (a < 65 ∨ 126 < a) → a ≠ 2 → F' a = F a ∧ G' a = G a := e1
    have st := stG_pt (show stG F' G' 65 (g 2) (g 5) (g 3) (g 6) (f 18) (f 19) (f 27) (g 7) (g 9) (g 11) (g 13) (g 15) from ⟨pl, tl, ll, ml, TL, ⟨e5, fun j hj => (e6 j hj).trans (m2 j hj)⟩, m3⟩) (R1 := qmx 384 (g 2) (g 21)) (C1 := qmx 4 (g 5) (g 17)) (R1' := qmx 384 (g 3) (g 22)) (C1' := qmx 4 (g 6) (g 18)) (PL1 := qmx 64 (g 7) (g 23)) (A1 := qmx 16 (g 9) (g 19)) (N1 := qmx 167 (g 11) (g 16)) (LG1 := qmx 600 (g 13) (g 20)) (MK1 := qmx 32 (g 15) (g 24)) (fun j hj => qmx_lt hj) (fun j hj => qmx_lt hj) (fun j hj => qmx_lt hj) (fun j hj => qmx_lt hj) (fun j hj => qmx_lt hj) (fun j hj => qmx_lt hj) (fun j hj => qmx_lt hj) (fun j hj => qmx_lt hj) (fun j hj => qmx_lt hj)
    refine ⟨hR.1, kp_st hR.2.1 (fun a h1 h2 => E a (by omega) (by omega)) ⟨rfl, rfl, rfl⟩ (fun j h1 h2 => ?_), kp_rd hR.2.2.1 (E 160 (by decide) (by decide)).1 (E 161 (by decide) (by decide)).2 (E 170 (by decide) (by decide)).1 ⟨rfl, rfl, rfl⟩ rfl, ⟨e4, Or.inr ⟨rfl, st⟩⟩, kp_pa hR.2.2.2.2.1 (fun a h1 h2 => E a (by omega) (by omega)) rfl rfl rfl, kp_th hR.2.2.2.2.2.1 (E 183 (by decide) (by decide)).2 (E 184 (by decide) (by decide)).2, by rw [(E 216 (by decide) (by decide)).1]; exact hR.2.2.2.2.2.2⟩
    rw [gup_ne (by omega), gup_ne (by omega), gup_ne (by omega), gup_ne (by omega), gup_ne (by omega), gup_ne (by omega), gup_ne (by omega), gup_ne (by omega), gup_ne (by omega)]
