/-! ===== ENDS WITH A PROPERTY: qEy: the method comes to an end, with an answer and a heap that have Q ===== -/
def qEy (M : qM) (pc : Nat) (ls st : List qA) (h : qH) (Q : Option qA → qH → Prop) : Prop := ∃ r hr, Q r hr ∧ qEx M pc ls st h r hr
section WhyRows
variable {M : qM} {pc pc' pc1 pc2 : Nat} {ls st ls' st' ls1 st1 ls2 st2 : List qA} {h h' h1 h2 : qH} {Q : Option qA → qH → Prop} {c : Prop}
theorem qy (z : ∀ r hr, qEx M pc' ls' st' h' r hr → qEx M pc ls st h r hr) (k : qEy M pc' ls' st' h' Q) : qEy M pc ls st h Q := by
  obtain ⟨r, hr, hq, hx⟩ := k
  exact ⟨r, hr, hq, z r hr hx⟩
theorem qy2 (z : ∀ r hr, (c → qEx M pc1 ls1 st1 h1 r hr) → (¬ c → qEx M pc2 ls2 st2 h2 r hr) → qEx M pc ls st h r hr) (k1 : c → qEy M pc1 ls1 st1 h1 Q) (k2 : ¬ c → qEy M pc2 ls2 st2 h2 Q) : qEy M pc ls st h Q := by
  by_cases hc : c
  · obtain ⟨r, hr, hq, hx⟩ := k1 hc
    exact ⟨r, hr, hq, z r hr (fun _ => hx) (fun q => absurd hc q)⟩
  · obtain ⟨r, hr, hq, hx⟩ := k2 hc
    exact ⟨r, hr, hq, z r hr (fun q => absurd q hc) (fun _ => hx)⟩
theorem qy2n (z : ∀ r hr, (¬ c → qEx M pc1 ls1 st1 h1 r hr) → (c → qEx M pc2 ls2 st2 h2 r hr) → qEx M pc ls st h r hr) (k1 : ¬ c → qEy M pc1 ls1 st1 h1 Q) (k2 : c → qEy M pc2 ls2 st2 h2 Q) : qEy M pc ls st h Q := by
  by_cases hc : c
  · obtain ⟨r, hr, hq, hx⟩ := k2 hc
    exact ⟨r, hr, hq, z r hr (fun q => absurd hc q) (fun _ => hx)⟩
  · obtain ⟨r, hr, hq, hx⟩ := k1 hc
    exact ⟨r, hr, hq, z r hr (fun _ => hx) (fun q => absurd q hc)⟩
/-- loops: mu falls each time the head is reached again -/
theorem y_wh {X : Type} (mu : X → Nat) (L : X → List qA) (H : X → qH) (P : X → Prop) (x0 : X) (h0 : P x0) (step : ∀ x, P x → (∀ x', P x' → mu x' < mu x → qEy M pc (L x') st (H x') Q) → qEy M pc (L x) st (H x) Q) : qEy M pc (L x0) st (H x0) Q := by
  have go : ∀ k x, mu x ≤ k → P x → qEy M pc (L x) st (H x) Q := by
    intro k
    induction k with
    | zero => intro x hk hp; exact step x hp (fun x' _ hl => absurd hl (by omega))
    | succ k ih => intro x hk hp; exact step x hp (fun x' hp' hl => ih x' (by omega) hp')
  exact go (mu x0) x0 (Nat.le_refl _) h0
theorem y_wh1 {A : Type} (mu : A → Nat) (L : A → List qA) (H : A → qH) (P : A → Prop) (a0 : A) (h0 : P a0) (step : ∀ a, P a → (∀ a', P a' → mu a' < mu a → qEy M pc (L a') st (H a') Q) → qEy M pc (L a) st (H a) Q) : qEy M pc (L a0) st (H a0) Q := y_wh mu L H P a0 h0 step
theorem y_wh2 {A B : Type} (mu : A → B → Nat) (L : A → B → List qA) (H : A → B → qH) (P : A → B → Prop) (a0 : A) (b0 : B) (h0 : P a0 b0) (step : ∀ a b, P a b → (∀ a' b', P a' b' → mu a' b' < mu a b → qEy M pc (L a' b') st (H a' b') Q) → qEy M pc (L a b) st (H a b) Q) : qEy M pc (L a0 b0) st (H a0 b0) Q :=
  y_wh (X := A × B) (fun x => mu x.1 x.2) (fun x => L x.1 x.2) (fun x => H x.1 x.2) (fun x => P x.1 x.2) (a0, b0) h0 (fun x hp kk => step x.1 x.2 hp (fun a' b' hp' hl => kk (a', b') hp' hl))
theorem y_wh3 {A B C : Type} (mu : A → B → C → Nat) (L : A → B → C → List qA) (H : A → B → C → qH) (P : A → B → C → Prop) (a0 : A) (b0 : B) (c0 : C) (h0 : P a0 b0 c0) (step : ∀ a b c, P a b c → (∀ a' b' c', P a' b' c' → mu a' b' c' < mu a b c → qEy M pc (L a' b' c') st (H a' b' c') Q) → qEy M pc (L a b c) st (H a b c) Q) : qEy M pc (L a0 b0 c0) st (H a0 b0 c0) Q :=
  y_wh (X := A × B × C) (fun x => mu x.1 x.2.1 x.2.2) (fun x => L x.1 x.2.1 x.2.2) (fun x => H x.1 x.2.1 x.2.2) (fun x => P x.1 x.2.1 x.2.2) (a0, b0, c0) h0 (fun x hp kk => step x.1 x.2.1 x.2.2 hp (fun a' b' c' hp' hl => kk (a', b', c') hp' hl))
theorem y_wh4 {A B C D : Type} (mu : A → B → C → D → Nat) (L : A → B → C → D → List qA) (H : A → B → C → D → qH) (P : A → B → C → D → Prop) (a0 : A) (b0 : B) (c0 : C) (d0 : D) (h0 : P a0 b0 c0 d0) (step : ∀ a b c d, P a b c d → (∀ a' b' c' d', P a' b' c' d' → mu a' b' c' d' < mu a b c d → qEy M pc (L a' b' c' d') st (H a' b' c' d') Q) → qEy M pc (L a b c d) st (H a b c d) Q) : qEy M pc (L a0 b0 c0 d0) st (H a0 b0 c0 d0) Q :=
  y_wh (X := A × B × C × D) (fun x => mu x.1 x.2.1 x.2.2.1 x.2.2.2) (fun x => L x.1 x.2.1 x.2.2.1 x.2.2.2) (fun x => H x.1 x.2.1 x.2.2.1 x.2.2.2) (fun x => P x.1 x.2.1 x.2.2.1 x.2.2.2) (a0, b0, c0, d0) h0 (fun x hp kk => step x.1 x.2.1 x.2.2.1 x.2.2.2 hp (fun a' b' c' d' hp' hl => kk (a', b', c', d') hp' hl))
theorem y_wh5 {A B C D E : Type} (mu : A → B → C → D → E → Nat) (L : A → B → C → D → E → List qA) (H : A → B → C → D → E → qH) (P : A → B → C → D → E → Prop) (a0 : A) (b0 : B) (c0 : C) (d0 : D) (e0 : E) (h0 : P a0 b0 c0 d0 e0) (step : ∀ a b c d e, P a b c d e → (∀ a' b' c' d' e', P a' b' c' d' e' → mu a' b' c' d' e' < mu a b c d e → qEy M pc (L a' b' c' d' e') st (H a' b' c' d' e') Q) → qEy M pc (L a b c d e) st (H a b c d e) Q) : qEy M pc (L a0 b0 c0 d0 e0) st (H a0 b0 c0 d0 e0) Q :=
  y_wh (X := A × B × C × D × E) (fun x => mu x.1 x.2.1 x.2.2.1 x.2.2.2.1 x.2.2.2.2) (fun x => L x.1 x.2.1 x.2.2.1 x.2.2.2.1 x.2.2.2.2) (fun x => H x.1 x.2.1 x.2.2.1 x.2.2.2.1 x.2.2.2.2) (fun x => P x.1 x.2.1 x.2.2.1 x.2.2.2.1 x.2.2.2.2) (a0, b0, c0, d0, e0) h0 (fun x hp kk => step x.1 x.2.1 x.2.2.1 x.2.2.2.1 x.2.2.2.2 hp (fun a' b' c' d' e' hp' hl => kk (a', b', c', d', e') hp' hl))
/-- into the property: the reference's state -/
theorem y_in {m : Nat} {ρ : Option qA} {f' : Nat → Int} {P : (Nat → Nat → Int) → Prop} (k : ∀ Q : Option qA → qH → Prop, (∀ g', P g' → Q ρ (rput h' m f' g')) → qEy M pc ls st h Q) : ∃ g', P g' ∧ qEx M pc ls st h ρ (rput h' m f' g') := by
  obtain ⟨r, hr, ⟨e1, g', hP, e2⟩, hx⟩ := k (fun r hr => r = ρ ∧ ∃ g', P g' ∧ hr = rput h' m f' g') (fun g' hP => ⟨rfl, g', hP, rfl⟩)
  subst e1; subst e2
  exact ⟨g', hP, hx⟩
theorem y_ret {r : Option qA} {hr : qH} (hq : Q r hr) (z : qEx M pc ls st h r hr) : qEy M pc ls st h Q := ⟨r, hr, hq, z⟩
end WhyRows
theorem qsi {x y : Int} (h : x = y) : some (qI x) = some (qI y) := by rw [h]
/-- frames: all arrays but those named are as before; all that aren't scratch -/
def fr (l : List Nat) (g g' : Nat → Nat → Int) : Prop := ∀ j, j ∉ l → g' j = g j
def sq (g g' : Nat → Nat → Int) : Prop := ∀ j, j < 25 → j ≠ 12 → g' j = g j
theorem fr_rf {l : List Nat} {g : Nat → Nat → Int} : fr l g g := fun _ _ => rfl
theorem fr_up {l : List Nat} {g g1 : Nat → Nat → Int} {k : Nat} {F : Nat → Int} (h : fr l g g1) (hk : k ∈ l) : fr l g (gup g1 k F) := fun j hj => (gup_ne (by intro e; subst e; exact hj hk)).trans (h j hj)
theorem fr_tr {l : List Nat} {g g1 g2 : Nat → Nat → Int} (h : fr l g g1) (h2 : fr l g1 g2) : fr l g g2 := fun j hj => (h2 j hj).trans (h j hj)
theorem fr_wd {l l' : List Nat} {g g1 : Nat → Nat → Int} (h : fr l g g1) (hl : ∀ j, j ∈ l → j ∈ l') : fr l' g g1 := fun j hj => h j (fun q => hj (hl j q))
theorem fr_at {l : List Nat} {g g1 : Nat → Nat → Int} (h : fr l g g1) (j : Nat) (hj : j ∉ l) {T : Nat → Int} {N : Nat} (hT : ∀ c, c < N → g j c = T c) : ∀ c, c < N → g1 j c = T c := fun c hc => (congrFun (h j hj) c).trans (hT c hc)
theorem sq_rf {g : Nat → Nat → Int} : sq g g := fun _ _ _ => rfl
theorem sq_up {g g1 : Nat → Nat → Int} {k : Nat} {F : Nat → Int} (h : sq g g1) (hk : k = 12 ∨ 25 ≤ k) : sq g (gup g1 k F) := fun j hj hj2 => (gup_ne (by omega)).trans (h j hj hj2)
theorem sq_tr {g g1 g2 : Nat → Nat → Int} (h : sq g g1) (h2 : sq g1 g2) : sq g g2 := fun j hj hj2 => (h2 j hj hj2).trans (h j hj hj2)
theorem sq_fr {l : List Nat} {g g1 : Nat → Nat → Int} (h : fr l g g1) (hl : ∀ j, j ∈ l → j = 12 ∨ 25 ≤ j) : sq g g1 := fun j hj hj2 => h j (fun q => by have := hl j q; omega)
/-! the reference's helpers with properties -/
section RefWhy
variable {h : qH} {m : Nat} {f : Nat → Int} {g : Nat → Nat → Int}
theorem y_laysOwn (hm : 2 ≤ m) : ∃ g', (fr [25, 26] g g' ∧ (∀ c, c < 648 → g' 25 c = ownT g c) ∧ ∀ c, c < 648 → g' 26 c = ownF g c) ∧ qEx M_X12_laysOwn 0 [qR m] [] (rput h m f g) none (rput h m f g') :=
  ⟨layG g, ⟨fun j hj => layG_ne (fun e => hj (by simp [e])) (fun e => hj (by simp [e])), fun c hc => layG_T hc, fun c hc => layG_F hc⟩, c_laysOwn hm⟩
theorem y_runs0 {n : Nat} (b : Int) (T : Nat → Int) (hm : 2 ≤ m) (hn : 1 ≤ n ∧ n ≤ 32) (hT : ∀ c, c < 648 → g 25 c = T c) (hB : ∀ c, c < 648 → 0 ≤ T c ∧ T c ≤ 7) : ∃ g', (fr [28, 29] g g' ∧ ∀ k, k < n → g' 28 k = rnE T n 0 b k) ∧ qEx M_X12_runs 0 [qR m, qI n, qI b, qI 0, qU] [] (rput h m f g) (some (qI (rnT T n 0 b))) (rput h m f g') := by
  have k := c_runs0 (h := h) (f := f) (g := g) (n := n) b hm hn (fun c hc => by rw [hT c hc]; exact hB c hc)
  rw [rnT_cg hT hB] at k
  refine ⟨_, ⟨fun j hj => (gup_ne (fun e => hj (by simp [e]))).trans (gup_ne (fun e => hj (by simp [e]))), fun q hq => ?_⟩, k⟩
  exact (show qmx n (rnE (g 25) n 0 b) (g 28) q = _ from (qmx_lt hq).trans (rnE_cg hT hB hq))
theorem y_steps28 {n : Nat} (df : Int) (T F : Nat → Int) (hm : 2 ≤ m) (hn : n ≤ 32) (hT : ∀ c, c < 648 → g 25 c = T c) (hF : ∀ k, k < n → g 28 k = F k) (hB : ∀ k, k < n → 0 ≤ F k ∧ F k ≤ 7) : ∃ g', (fr [28, 29] g g' ∧ ∀ k, k < n → g' 28 k = stp T n 0 df F k) ∧ qEx M_X12_steps 0 [qR m, qR (m + 28), qI n, qI 0, qI df, qR (m + 25), qU, qU, qU] [] (rput h m f g) none (rput h m f g') := by
  have hB2 : ∀ k, k < n → 0 ≤ g 28 k ∧ g 28 k ≤ 7 := fun k hk => by rw [hF k hk]; exact hB k hk
  refine ⟨_, ⟨fun j hj => (gup_ne (fun e => hj (by simp [e]))).trans (gup_ne (fun e => hj (by simp [e]))), fun q hq => ?_⟩, c_steps28_0 (h := h) (f := f) (g := g) (n := n) df hm hn hB2⟩
  exact (show qmx n (stp (g 25) n 0 df (g 28)) (g 28) q = _ from (qmx_lt hq).trans (stp_cg hq hT hF hB2))
theorem y_steps30 {n : Nat} (df : Int) (T F : Nat → Int) (hm : 2 ≤ m) (hn : n ≤ 32) (hT : ∀ c, c < 648 → g 27 c = T c) (hF : ∀ k, k < n → g 30 k = F k) (hB : ∀ k, k < n → 0 ≤ F k ∧ F k ≤ 7) : ∃ g', (fr [29, 30] g g' ∧ ∀ k, k < n → g' 30 k = stp T n 0 df F k) ∧ qEx M_X12_steps 0 [qR m, qR (m + 30), qI n, qI 0, qI df, qR (m + 27), qU, qU, qU] [] (rput h m f g) none (rput h m f g') := by
  have hB2 : ∀ k, k < n → 0 ≤ g 30 k ∧ g 30 k ≤ 7 := fun k hk => by rw [hF k hk]; exact hB k hk
  refine ⟨_, ⟨fun j hj => (gup_ne (fun e => hj (by simp [e]))).trans (gup_ne (fun e => hj (by simp [e]))), fun q hq => ?_⟩, c_steps30_0 (h := h) (f := f) (g := g) (n := n) df hm hn hB2⟩
  exact (show qmx n (stp (g 27) n 0 df (g 30)) (g 30) q = _ from (qmx_lt hq).trans (stp_cg hq hT hF hB2))
theorem y_firstBad {to : Nat} (T : Nat → Int) (hm : 2 ≤ m) (ht : to ≤ 24) (hT : ∀ c, c < 648 → g 25 c = T c) (hB : ∀ c, c < 648 → 0 ≤ T c ∧ T c ≤ 7) : ∃ g', fr [28, 29] g g' ∧ qEx M_X12_firstBad 0 [qR m, qI to, qU] [] (rput h m f g) (some (qI (fbR T to))) (rput h m f g') := by
  have k := c_firstBad (h := h) (f := f) (g := g) (to := to) hm ht (fun c hc => by rw [hT c hc]; exact hB c hc)
  rw [fbR_cg hT hB] at k
  exact ⟨_, fun j hj => (gup_ne (fun e => hj (by simp [e]))).trans (gup_ne (fun e => hj (by simp [e]))), k⟩
end RefWhy
