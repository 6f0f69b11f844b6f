/-! ===== RUNS over two tables that agree on all cases ===== -/
section Agree
variable {T S : Nat → Int} {n rg : Nat} {b df : Int}
theorem ps_cg (hT : ∀ c, c < 648 → T c = S c) (hS : ∀ c, c < 648 → 0 ≤ S c ∧ S c ≤ 7) : ∀ (t k : Nat), k < n → ps T n rg df b t k = ps S n rg df b t k
  | 0, k, _ => rfl
  | t + 1, k, hk => stp_cg hk hT (fun j hj => ps_cg hT hS t j hj) (ps_bd (fun c hc => by rw [hT c hc]; exact hS c hc) t)
theorem litAt_cg (hT : ∀ c, c < 648 → T c = S c) (hS : ∀ c, c < 648 → 0 ≤ S c ∧ S c ≤ 7) (t : Nat) : litAt T n rg df b t ↔ litAt S n rg df b t := by
  unfold litAt
  rw [cnt_congr (fun k hk => by rw [ps_cg hT hS t k hk])]
theorem rnF_cg (hT : ∀ c, c < 648 → T c = S c) (hS : ∀ c, c < 648 → 0 ≤ S c ∧ S c ≤ 7) : rnF T n rg b = rnF S n rg b := fst_congr (fun t _ => litAt_cg hT hS (t + 1))
theorem rnT_cg (hT : ∀ c, c < 648 → T c = S c) (hS : ∀ c, c < 648 → 0 ≤ S c ∧ S c ≤ 7) : rnT T n rg b = rnT S n rg b := by
  unfold rnT
  rw [rnF_cg hT hS]
theorem rnE_cg (hT : ∀ c, c < 648 → T c = S c) (hS : ∀ c, c < 648 → 0 ≤ S c ∧ S c ≤ 7) {k : Nat} (hk : k < n) : rnE T n rg b k = rnE S n rg b k := by
  unfold rnE rnN
  rw [rnF_cg hT hS]
  exact ps_cg hT hS _ k hk
theorem rnL_cg (hT : ∀ c, c < 648 → T c = S c) (hS : ∀ c, c < 648 → 0 ≤ S c ∧ S c ≤ 7) : cnt (fun k => rnE T n rg b k = 7) n = cnt (fun k => rnE S n rg b k = 7) n := cnt_congr (fun k hk => by rw [rnE_cg hT hS hk])
theorem rnD_cg (hT : ∀ c, c < 648 → T c = S c) (hS : ∀ c, c < 648 → 0 ≤ S c ∧ S c ≤ 7) : fst (fun k => ¬ rnE T n rg b k = 7) n = fst (fun k => ¬ rnE S n rg b k = 7) n := fst_congr (fun k hk => by rw [rnE_cg hT hS hk])
theorem goodR_cg (hT : ∀ c, c < 648 → T c = S c) (hS : ∀ c, c < 648 → 0 ≤ S c ∧ S c ≤ 7) : goodR T n ↔ goodR S n := by
  unfold goodR
  rw [rnT_cg hT hS, rnL_cg hT hS]
theorem fbF_cg {to : Nat} (hT : ∀ c, c < 648 → T c = S c) (hS : ∀ c, c < 648 → 0 ≤ S c ∧ S c ≤ 7) : fbF T to = fbF S to := fst_congr (fun k _ => not_congr (goodR_cg hT hS))
theorem fbR_cg {to : Nat} (hT : ∀ c, c < 648 → T c = S c) (hS : ∀ c, c < 648 → 0 ≤ S c ∧ S c ≤ 7) : fbR T to = fbR S to := by
  unfold fbR
  rw [fbF_cg hT hS]
theorem fbN_cg {to : Nat} (hT : ∀ c, c < 648 → T c = S c) (hS : ∀ c, c < 648 → 0 ≤ S c ∧ S c ≤ 7) : fbN T to = fbN S to := by
  unfold fbN
  rw [fbF_cg hT hS]
theorem fbR_N {to : Nat} (h : fbR T to ≠ -1) : fbR T to = (fbN T to : Int) ∧ 1 ≤ fbN T to ∧ fbN T to ≤ to := by
  unfold fbR fbN at *
  rcases fst_cases (fun k => ¬ goodR T (k + 1)) to with ⟨e, -⟩ | ⟨i, hi, e, -⟩
  · have e2 : fbF T to = -1 := e
    rw [e2, qif_t rfl] at h
    exact absurd rfl h
  · have e2 : fbF T to = (i : Int) := e
    rw [e2, qif_f (by omega), if_neg (by omega), Int.toNat_natCast]
    omega
end Agree
theorem layG_T2 {g : Nat → Nat → Int} : ∀ c, c < 648 → layG g 25 c = ownT g c := fun _ h => layG_T h
theorem ownT_bd {g : Nat → Nat → Int} (hO : bkOk (g 2) (g 5)) : ∀ c, c < 648 → 0 ≤ ownT g c ∧ ownT g c ≤ 7 := fun c hc => bkTc_bd hO (by decide) c hc
theorem rnT_bd {T : Nat → Int} {n rg : Nat} {b : Int} : -1 ≤ rnT T n rg b ∧ rnT T n rg b ≤ 3 * n + 20 := by
  unfold rnT
  rcases fst_cases (fun t => litAt T n rg (-1) b (t + 1)) (3 * n + 20) with ⟨e, -⟩ | ⟨i, hi, e, -⟩
  · have e2 : rnF T n rg b = -1 := e
    rw [e2, qif_t rfl]; omega
  · have e2 : rnF T n rg b = (i : Int) := e
    rw [e2, qif_f (by omega)]; omega
