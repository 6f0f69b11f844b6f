/-! ===== BITS of an int: tb x k is bit k of the 32 ===== -/
def tb (x : Int) (k : Nat) : Bool := (Int32.ofInt x).toBitVec.getLsbD k
theorem tb_and (x y : Int) (k : Nat) : tb (qAnd x y) k = (tb x k && tb y k) := by
  unfold tb qAnd
  rw [Int32.ofInt_toInt, Int32.toBitVec_and, BitVec.getLsbD_and]
theorem tb_or (x y : Int) (k : Nat) : tb (qOr x y) k = (tb x k || tb y k) := by
  unfold tb qOr
  rw [Int32.ofInt_toInt, Int32.toBitVec_or, BitVec.getLsbD_or]
theorem tb_xor (x y : Int) (k : Nat) : tb (qXor x y) k = (tb x k ^^ tb y k) := by
  unfold tb qXor
  rw [Int32.ofInt_toInt, Int32.toBitVec_xor, BitVec.getLsbD_xor]
theorem sh_amt : ∀ k : Fin 32, (Int32.ofInt ((k : Nat) : Int) &&& 31).toBitVec.smod 32 = BitVec.ofNat 32 k := by decide +kernel
theorem sh_amt2 : ∀ k : Fin 32, ((Int32.ofInt ((k : Nat) : Int)).toUInt32 &&& Int32.toUInt32 31) = UInt32.ofNat k := by decide +kernel
theorem tb_shl (x : Int) {j : Nat} (k : Nat) (hj : j < 32) : tb (qShl x (j : Int)) k = (decide (k < 32) && decide (j ≤ k) && tb x (k - j)) := by
  unfold tb qShl
  rw [Int32.ofInt_toInt, Int32.toBitVec_shiftLeft, sh_amt ⟨j, hj⟩, BitVec.shiftLeft_eq', BitVec.getLsbD_shiftLeft]
  have e : (BitVec.ofNat 32 j).toNat = j := by rw [BitVec.toNat_ofNat]; omega
  simp only [e]
  by_cases h1 : j ≤ k <;> by_cases h2 : k < 32 <;> simp [h1, h2] <;> omega
theorem tb_shr (x : Int) {j : Nat} (k : Nat) (hj : j < 32) (hk : k + j < 32) : tb (qShr x (j : Int)) k = tb x (k + j) := by
  unfold tb qShr
  rw [Int32.ofInt_toInt, Int32.toBitVec_shiftRight, sh_amt ⟨j, hj⟩, BitVec.getLsbD_sshiftRight']
  have e : (BitVec.ofNat 32 j).toNat = j := by rw [BitVec.toNat_ofNat]; omega
  simp only [e]
  rw [if_pos (by omega), Nat.add_comm j k]
  simp
  omega
theorem tb_ushr (x : Int) {j : Nat} (k : Nat) (hj : j < 32) : tb (qUshr x (j : Int)) k = tb x (k + j) := by
  unfold tb qUshr
  rw [Int32.ofInt_toInt, sh_amt2 ⟨j, hj⟩]
  show ((Int32.ofInt x).toUInt32 >>> UInt32.ofNat j).toBitVec.getLsbD k = _
  rw [UInt32.toBitVec_shiftRight]
  have e : (UInt32.ofNat j).toBitVec % 32 = BitVec.ofNat 32 j := by
    apply BitVec.eq_of_toNat_eq
    simp
    omega
  rw [e, BitVec.ushiftRight_eq', BitVec.getLsbD_ushiftRight]
  have e : (BitVec.ofNat 32 j).toNat = j := by rw [BitVec.toNat_ofNat]; omega
  rw [e, Nat.add_comm]
  rfl
theorem tb_ge (x : Int) {k : Nat} (h : 32 ≤ k) : tb x k = false := BitVec.getLsbD_of_ge _ _ h
theorem tb_0 (k : Nat) : tb 0 k = false := by simp [tb]
theorem tb_1 (k : Nat) : tb 1 k = decide (k = 0) := by
  have h : tb 1 k = (1#32).getLsbD k := rfl
  rw [h, BitVec.getLsbD_one]
  simp
theorem tb_m1 {k : Nat} (h : k < 32) : tb (-1) k = true := by
  have e : tb (-1) k = (BitVec.allOnes 32).getLsbD k := rfl
  rw [e, BitVec.getLsbD_allOnes]
  simp [h]
theorem tb_ext {x y : Int} (hx : R32 x) (hy : R32 y) (h : ∀ k, k < 32 → tb x k = tb y k) : x = y := by
  have e : (Int32.ofInt x).toBitVec = (Int32.ofInt y).toBitVec := BitVec.eq_of_getLsbD_eq (fun i hi => h i hi)
  have e2 : Int32.ofInt x = Int32.ofInt y := Int32.toBitVec_inj.mp e
  exact (r32_eq hx hy).mp e2
theorem qAnd_R (x y : Int) : R32 (qAnd x y) := r32_in
theorem qOr_R (x y : Int) : R32 (qOr x y) := r32_in
theorem qXor_R (x y : Int) : R32 (qXor x y) := r32_in
theorem qShl_R (x y : Int) : R32 (qShl x y) := r32_in
theorem qShr_R (x y : Int) : R32 (qShr x y) := r32_in
theorem qUshr_R (x y : Int) : R32 (qUshr x y) := r32_in
/-- x & 1 -/
theorem qAnd1 (x : Int) : qAnd x 1 = if tb x 0 = true then 1 else 0 := by
  apply tb_ext (qAnd_R _ _) (by split <;> decide)
  intro k hk
  rw [tb_and, tb_1]
  by_cases h0 : k = 0
  · subst h0
    by_cases h : tb x 0 = true
    · rw [if_pos h, h, tb_1]; rfl
    · rw [if_neg h, tb_0]; simp [h]
  · by_cases h : tb x 0 = true
    · rw [if_pos h, tb_1]; simp [h0]
    · rw [if_neg h, tb_0]; simp [h0]
/-- (x >> k & 1) -/
theorem q_has (x : Int) {k : Nat} (hk : k < 32) : qAnd (qShr x (k : Int)) 1 = if tb x k = true then 1 else 0 := by
  rw [qAnd1, tb_shr x 0 hk (by omega), Nat.zero_add]
theorem q_hasU (x : Int) {k : Nat} (hk : k < 32) : qAnd (qUshr x (k : Int)) 1 = if tb x k = true then 1 else 0 := by
  rw [qAnd1, tb_ushr x 0 hk, Nat.zero_add]
/-- nonnegative numbers -/
theorem tb_nat {x : Int} (h0 : 0 ≤ x) (k : Nat) (hk : k < 32) : tb x k = x.toNat.testBit k := by
  obtain ⟨n, rfl⟩ : ∃ n : Nat, x = n := ⟨x.toNat, by omega⟩
  unfold tb
  rw [Int32.ofInt_eq_ofNat]
  show (BitVec.ofNat 32 n).getLsbD k = _
  rw [BitVec.getLsbD_ofNat, Int.toNat_natCast]
  simp [hk]
/-- the sign bit -/
theorem tb_neg {x : Int} (hx : R32 x) : tb x 31 = decide (x < 0) := by
  have h : tb x 31 = (Int32.ofInt x).toBitVec.msb := by rw [BitVec.msb_eq_getLsbD_last]; rfl
  rw [h, BitVec.msb_eq_toInt]
  have e : (Int32.ofInt x).toBitVec.toInt = x := r32_to hx
  rw [e]
theorem nn_of_tb {x : Int} (hx : R32 x) (h : tb x 31 = false) : 0 ≤ x := by
  rw [tb_neg hx] at h
  simpa using h
theorem qAnd_nat {x y : Int} (hx : 0 ≤ x) (hy : 0 ≤ y) (hx2 : R32 x) (hy2 : R32 y) : qAnd x y = ((x.toNat &&& y.toNat : Nat) : Int) := by
  have hle : x.toNat &&& y.toNat ≤ x.toNat := Nat.and_le_left
  apply tb_ext (qAnd_R _ _) ⟨by omega, by omega⟩
  intro k hk
  rw [tb_and, tb_nat hx k hk, tb_nat hy k hk, tb_nat (by omega) k hk, Int.toNat_natCast, Nat.testBit_and]
theorem qOr_nat {x y : Int} (hx : 0 ≤ x) (hy : 0 ≤ y) (hx2 : R32 x) (hy2 : R32 y) : qOr x y = ((x.toNat ||| y.toNat : Nat) : Int) := by
  have hlt : x.toNat ||| y.toNat < 2 ^ 31 := Nat.or_lt_two_pow (by omega) (by omega)
  apply tb_ext (qOr_R _ _) ⟨by omega, by omega⟩
  intro k hk
  rw [tb_or, tb_nat hx k hk, tb_nat hy k hk, tb_nat (by omega) k hk, Int.toNat_natCast, Nat.testBit_or]
theorem qXor_nat {x y : Int} (hx : 0 ≤ x) (hy : 0 ≤ y) (hx2 : R32 x) (hy2 : R32 y) : qXor x y = ((x.toNat ^^^ y.toNat : Nat) : Int) := by
  have hlt : x.toNat ^^^ y.toNat < 2 ^ 31 := Nat.xor_lt_two_pow (by omega) (by omega)
  apply tb_ext (qXor_R _ _) ⟨by omega, by omega⟩
  intro k hk
  rw [tb_xor, tb_nat hx k hk, tb_nat hy k hk, tb_nat (by omega) k hk, Int.toNat_natCast, Nat.testBit_xor]
/-- 1 << k -/
theorem q_bit {k : Nat} (hk : k < 31) : qShl 1 (k : Int) = ((2 ^ k : Nat) : Int) := by
  have hlt : 2 ^ k < 2 ^ 31 := Nat.pow_lt_pow_right (by decide) hk
  have hR : R32 ((2 ^ k : Nat) : Int) ∧ (0 : Int) ≤ ((2 ^ k : Nat) : Int) := by
    generalize 2 ^ k = p at hlt
    exact ⟨⟨by omega, by omega⟩, by omega⟩
  apply tb_ext (qShl_R _ _) hR.1
  intro j hj
  rw [tb_shl 1 j (by omega), tb_1, tb_nat hR.2 j hj, Int.toNat_natCast, Nat.testBit_two_pow]
  by_cases h : k = j
  · subst h; simp; omega
  · by_cases h2 : k ≤ j
    · have : j - k ≠ 0 := by omega
      simp [h, this]
    · simp [h, h2]
theorem tb_bit {k : Nat} (hk : k < 32) (j : Nat) : tb (qShl 1 (k : Int)) j = decide (j = k) := by
  rw [tb_shl 1 j hk, tb_1]
  by_cases h : j = k
  · subst h; simp [hk]
  · by_cases h2 : k ≤ j
    · have : j - k ≠ 0 := by omega
      simp [h, this]
    · simp [h, h2]
/-- ~ x -/
theorem tb_not (x : Int) {k : Nat} (hk : k < 32) : tb (qXor x (-1)) k = !tb x k := by
  rw [tb_xor, tb_m1 hk]
  simp
/-- a byte of a number, shifted with or without its sign -/
theorem q_byte (x : Int) {j : Nat} (hj : j ≤ 24) : qAnd (qUshr x (j : Int)) 255 = qAnd (qShr x (j : Int)) 255 := by
  apply tb_ext (qAnd_R _ _) (qAnd_R _ _)
  intro k hk
  rw [tb_and, tb_and]
  by_cases h : k < 8
  · rw [tb_ushr x k (by omega), tb_shr x k (by omega) (by omega)]
  · have e : tb 255 k = false := by
      rw [tb_nat (by decide) k hk]
      show Nat.testBit 255 k = false
      exact Nat.testBit_lt_two_pow (Nat.lt_of_lt_of_le (by decide : 255 < 2 ^ 8) (Nat.pow_le_pow_right (by decide) (by omega)))
    rw [e, Bool.and_false, Bool.and_false]
theorem q_byte_bd (x : Int) : 0 ≤ qAnd x 255 ∧ qAnd x 255 ≤ 255 := by
  have e : ∀ k, 8 ≤ k → tb (qAnd x 255) k = false := by
    intro k hk
    by_cases h : k < 32
    · rw [tb_and]
      have e : tb 255 k = false := by
        rw [tb_nat (by decide) k h]
        show Nat.testBit 255 k = false
        exact Nat.testBit_lt_two_pow (Nat.lt_of_lt_of_le (by decide : 255 < 2 ^ 8) (Nat.pow_le_pow_right (by decide) (by omega)))
      rw [e, Bool.and_false]
    · exact tb_ge _ (by omega)
  have h0 : 0 ≤ qAnd x 255 := nn_of_tb (qAnd_R _ _) (e 31 (by decide))
  refine ⟨h0, ?_⟩
  have hlt : (qAnd x 255).toNat < 2 ^ 8 := by
    apply Nat.lt_pow_two_of_testBit
    intro i hi
    by_cases h : i < 32
    · rw [← tb_nat h0 i h]; exact e i hi
    · have hR := (qAnd_R x 255).2
      exact Nat.testBit_lt_two_pow (Nat.lt_of_lt_of_le (by omega : (qAnd x 255).toNat < 2 ^ 31) (Nat.pow_le_pow_right (by decide) (by omega)))
  omega
