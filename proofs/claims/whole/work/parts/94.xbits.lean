/-! ===== CONTRACTS: bitCount ===== -/
section Wrap
variable {M : qM} {pc : Nat} {ls st : List qA} {h : qH} {r : Option qA} {hr : qH}
def qSub (x y : Int) : Int := (Int32.ofInt x - Int32.ofInt y).toInt
theorem z_isubw {x y : Int} (hd : decode (qMc M) pc = .ok (.isub, 1)) (k : qEx M (pc + 1) ls (qI (qSub x y) :: st) h r hr) : qEx M pc ls (qI y :: qI x :: st) h r hr := by
  unfold qEx at *
  refine ⟨k.1, k.2.1, fun G p l e s m args below meth c H locs cells slots mc ms lsA C hH hS hRl hRs hc hs hL => ?_⟩
  obtain ⟨hx, hb, hml, hrt, hown, hlk, hnm, hts, hK, hbs⟩ := id C
  have k2 := k.2.2 G p l e s m args below meth c H locs cells slots mc ms lsA C hH hS hRl (qRs_cons (show R32 (qSub x y) from r32_in) (qRs_tail (qRs_tail hRs))) hc hs hL
  (try simp only [List.map_cons, qV_i, qV_l, qV_r, qV_n])
  refine lv_isub hx hb hd ?_
  refine W.eq ?_ k2
  simp only [List.map_cons, qV_i, qV_l, qV_r, qV_n, qSub, Int32.ofInt_toInt]
end Wrap
/-- an int as a number below 2^32 -/
def uN (x : Int) : Nat := (Int32.ofInt x).toBitVec.toNat
theorem uN_lt (x : Int) : uN x < 4294967296 := (Int32.ofInt x).toBitVec.isLt
theorem tb_uN (x : Int) (k : Nat) : tb x k = (uN x).testBit k := rfl
theorem nn_uN {x : Int} (h0 : 0 ≤ x) (h1 : x < 2147483648) : uN x = x.toNat := by
  apply Nat.eq_of_testBit_eq
  intro k
  rcases Nat.lt_or_ge k 32 with q | q
  · rw [← tb_uN, tb_nat h0 k q]
  · rw [← tb_uN, tb_ge x q]
    symm
    exact Nat.testBit_lt_two_pow (Nat.lt_of_lt_of_le (show x.toNat < 2 ^ 31 by omega) (Nat.pow_le_pow_right (by decide) (by omega)))
theorem msk_uN {x m : Int} (s : Nat) (hs : s < 32) (hm0 : 0 ≤ m) (hm1 : m < 2147483648) : qAnd (qUshr x (s : Int)) m = ((uN x >>> s &&& m.toNat : Nat) : Int) := by
  have hle : uN x >>> s &&& m.toNat ≤ m.toNat := Nat.and_le_right
  refine tb_ext (qAnd_R _ _) ⟨by omega, by omega⟩ (fun k hk => ?_)
  rw [tb_and, tb_ushr x k hs, tb_nat (x := ((uN x >>> s &&& m.toNat : Nat) : Int)) (by omega) k hk, Int.toNat_natCast, Nat.testBit_and, Nat.testBit_shiftRight, tb_uN, tb_nat hm0 k hk, Nat.add_comm]
theorem msk_uN0 {x m : Int} (hm0 : 0 ≤ m) (hm1 : m < 2147483648) : qAnd x m = ((uN x &&& m.toNat : Nat) : Int) := by
  have hle : uN x &&& m.toNat ≤ m.toNat := Nat.and_le_right
  refine tb_ext (qAnd_R _ _) ⟨by omega, by omega⟩ (fun k hk => ?_)
  rw [tb_and, tb_nat (x := ((uN x &&& m.toNat : Nat) : Int)) (by omega) k hk, Int.toNat_natCast, Nat.testBit_and, tb_uN, tb_nat hm0 k hk]
theorem sub_uN {x y : Int} (hy0 : 0 ≤ y) (hy1 : y < 2147483648) (hle : y.toNat ≤ uN x) : uN (qSub x y) = uN x - y.toNat := by
  have e : uN (qSub x y) = ((Int32.ofInt x).toBitVec - (Int32.ofInt y).toBitVec).toNat := by
    unfold uN qSub
    rw [Int32.ofInt_toInt]
    rfl
  rw [e, BitVec.toNat_sub]
  have e2 : (Int32.ofInt y).toBitVec.toNat = y.toNat := nn_uN hy0 hy1
  have e3 : (Int32.ofInt x).toBitVec.toNat = uN x := rfl
  rw [e2, e3]
  have := uN_lt x
  omega
/-- four bytes -/
def lan (a b c d : Nat) : Nat := 2 ^ 8 * (2 ^ 8 * (2 ^ 8 * a + b) + c) + d
theorem lan_of {v : Nat} (h : v < 4294967296) : v = lan (v / 16777216) (v / 65536 % 256) (v / 256 % 256) (v % 256) := by unfold lan; omega
theorem and8 {a b m n : Nat} (hb : b < 256) (hn : n < 256) : (2 ^ 8 * a + b) &&& (2 ^ 8 * m + n) = 2 ^ 8 * (a &&& m) + (b &&& n) := by
  have hbn : b &&& n < 2 ^ 8 := Nat.lt_of_le_of_lt Nat.and_le_left hb
  apply Nat.eq_of_testBit_eq
  intro j
  rw [Nat.testBit_and, Nat.testBit_two_pow_mul_add _ (show b < 2 ^ 8 from hb), Nat.testBit_two_pow_mul_add _ (show n < 2 ^ 8 from hn), Nat.testBit_two_pow_mul_add _ hbn]
  by_cases c : j < 8
  · rw [if_pos c, if_pos c, if_pos c, Nat.testBit_and]
  · rw [if_neg c, if_neg c, if_neg c, Nat.testBit_and]
theorem shr8 {a b m n s : Nat} (hb : b < 256) (hs : s ≤ 8) (hn : n < 2 ^ (8 - s)) : (2 ^ 8 * a + b) >>> s &&& (2 ^ 8 * m + n) = 2 ^ 8 * (a >>> s &&& m) + (b >>> s &&& n) := by
  have hn8 : n < 2 ^ 8 := Nat.lt_of_lt_of_le hn (Nat.pow_le_pow_right (by decide) (by omega))
  have hbn : b >>> s &&& n < 2 ^ 8 := Nat.lt_of_le_of_lt Nat.and_le_right hn8
  apply Nat.eq_of_testBit_eq
  intro j
  rw [Nat.testBit_and, Nat.testBit_shiftRight, Nat.testBit_two_pow_mul_add _ (show b < 2 ^ 8 from hb), Nat.testBit_two_pow_mul_add _ hn8, Nat.testBit_two_pow_mul_add _ hbn]
  by_cases c : j < 8
  · rw [if_pos c, if_pos c, Nat.testBit_and, Nat.testBit_shiftRight]
    by_cases d : s + j < 8
    · rw [if_pos d]
    · have : n.testBit j = false := Nat.testBit_lt_two_pow (Nat.lt_of_lt_of_le hn (Nat.pow_le_pow_right (by decide) (by omega)))
      rw [this, Bool.and_false, Bool.and_false]
  · rw [if_neg (show ¬ s + j < 8 by omega), if_neg c, if_neg c, Nat.testBit_and, Nat.testBit_shiftRight, show s + j - 8 = s + (j - 8) by omega]
theorem lan_and {a b c d m s : Nat} (hb : b < 256) (hc : c < 256) (hd : d < 256) (hs : s ≤ 8) (hm : m < 2 ^ (8 - s)) : lan a b c d >>> s &&& lan m m m m = lan (a >>> s &&& m) (b >>> s &&& m) (c >>> s &&& m) (d >>> s &&& m) := by
  unfold lan
  rw [shr8 hd hs hm, shr8 hc hs hm, shr8 hb hs hm]
def p1 (b : Nat) : Nat := b - (b >>> 1 &&& 85)
def p2 (b : Nat) : Nat := (p1 b &&& 51) + (p1 b >>> 2 &&& 51)
def pcb (b : Nat) : Nat := (List.range 8).foldl (fun s k => s + if b.testBit k then 1 else 0) 0
theorem byte_all : (List.range 256).all (fun b => decide ((b >>> 1 &&& 85) ≤ b) && decide (p1 b < 256) && decide (p2 b ≤ 68) && decide (p2 b % 16 ≤ 4) && decide ((p2 b + p2 b / 16) % 16 = pcb b) && decide (pcb b ≤ 8)) = true := by decide +kernel
theorem byte_at {b : Nat} (h : b < 256) : (b >>> 1 &&& 85) ≤ b ∧ p1 b < 256 ∧ p2 b ≤ 68 ∧ p2 b % 16 ≤ 4 ∧ (p2 b + p2 b / 16) % 16 = pcb b ∧ pcb b ≤ 8 := by
  have := List.all_eq_true.mp byte_all b (List.mem_range.mpr h)
  simp only [Bool.and_eq_true, decide_eq_true_eq] at this
  omega
theorem cnt_add (p : Nat → Prop) (a : Nat) : ∀ b, cnt p (a + b) = cnt p a + cnt (fun k => p (a + k)) b
  | 0 => by show cnt p a = cnt p a + 0; omega
  | b + 1 => by
    show cnt p (a + b) + qb (p (a + b)) = cnt p a + (cnt (fun k => p (a + k)) b + qb (p (a + b)))
    rw [cnt_add p a b]; omega
theorem cnt_byte {b : Nat} : cnt (fun k => b.testBit k = true) 8 = (pcb b : Int) := by
  have q : ∀ k, qb (b.testBit k = true) = ((if b.testBit k then 1 else 0 : Nat) : Int) := by
    intro k
    by_cases h : b.testBit k = true
    · rw [qb_t h, if_pos h]; rfl
    · rw [qb_f h, if_neg h]; rfl
  show 0 + qb (b.testBit 0 = true) + qb (b.testBit 1 = true) + qb (b.testBit 2 = true) + qb (b.testBit 3 = true) + qb (b.testBit 4 = true) + qb (b.testBit 5 = true) + qb (b.testBit 6 = true) + qb (b.testBit 7 = true) = _
  rw [q, q, q, q, q, q, q, q]
  show _ = ((0 + (if b.testBit 0 then 1 else 0) + (if b.testBit 1 then 1 else 0) + (if b.testBit 2 then 1 else 0) + (if b.testBit 3 then 1 else 0) + (if b.testBit 4 then 1 else 0) + (if b.testBit 5 then 1 else 0) + (if b.testBit 6 then 1 else 0) + (if b.testBit 7 then 1 else 0) : Nat) : Int)
  omega
theorem cnt_lan {a b c d : Nat} (hb : b < 256) (hc : c < 256) (hd : d < 256) : cnt (fun k => (lan a b c d).testBit k = true) 32 = (pcb a + pcb b + pcb c + pcb d : Int) := by
  have t : ∀ (x y : Nat), y < 256 → ∀ n, cnt (fun k => (2 ^ 8 * x + y).testBit k = true) (8 + n) = (pcb y : Int) + cnt (fun k => x.testBit k = true) n := by
    intro x y hy n
    rw [cnt_add, ← cnt_byte (b := y)]
    congr 1
    · exact cnt_congr (fun k hk => by rw [Nat.testBit_two_pow_mul_add _ (show y < 2 ^ 8 from hy), if_pos hk])
    · exact cnt_congr (fun k hk => by rw [Nat.testBit_two_pow_mul_add _ (show y < 2 ^ 8 from hy), if_neg (by omega), show 8 + k - 8 = k by omega])
  unfold lan
  rw [show (32 : Nat) = 8 + 24 from rfl, t _ d hd, show (24 : Nat) = 8 + 16 from rfl, t _ c hc, show (16 : Nat) = 8 + 8 from rfl, t _ b hb, cnt_byte]
  omega
theorem bc_all {v Y v1 v2 w v3 : Nat} (hv : v < 4294967296) (hY : Y = v >>> 1 &&& 1431655765) (h1 : v1 = v - Y) (h2 : v2 = (v1 &&& 858993459) + (v1 >>> 2 &&& 858993459)) (hw : w = v2 + v2 / 16) (h3 : v3 = w &&& 252645135) : Y ≤ v ∧ v2 ≤ 1145324612 ∧ w < 2147483648 ∧ v3 ≤ 134744072 ∧ ((v3 + v3 / 256 + (v3 + v3 / 256) / 65536) % 64 : Int) = cnt (fun k => v.testBit k = true) 32 := by
  obtain ⟨a, b, c, d, ha, hb, hc, hd, rfl⟩ : ∃ a b c d, a < 256 ∧ b < 256 ∧ c < 256 ∧ d < 256 ∧ v = lan a b c d := ⟨v / 16777216, v / 65536 % 256, v / 256 % 256, v % 256, by omega, by omega, by omega, by omega, lan_of hv⟩
  obtain ⟨a1, a2, a3, a4, a5, a6⟩ := byte_at ha
  obtain ⟨b1, b2, b3, b4, b5, b6⟩ := byte_at hb
  obtain ⟨c1, c2, c3, c4, c5, c6⟩ := byte_at hc
  obtain ⟨d1, d2, d3, d4, d5, d6⟩ := byte_at hd
  rw [show (1431655765 : Nat) = lan 85 85 85 85 from rfl, lan_and hb hc hd (by decide) (by decide)] at hY
  have e1 : v1 = lan (p1 a) (p1 b) (p1 c) (p1 d) := by
    rw [h1, hY]
    unfold lan p1
    omega
  have e2 : v2 = lan (p2 a) (p2 b) (p2 c) (p2 d) := by
    have z0 := lan_and (a := p1 a) (m := 51) (s := 0) b2 c2 d2 (by decide) (by decide)
    have z2 := lan_and (a := p1 a) (m := 51) (s := 2) b2 c2 d2 (by decide) (by decide)
    rw [Nat.shiftRight_zero, Nat.shiftRight_zero, Nat.shiftRight_zero, Nat.shiftRight_zero, Nat.shiftRight_zero] at z0
    rw [h2, e1, show (858993459 : Nat) = lan 51 51 51 51 from rfl, z0, z2]
    unfold lan p2
    omega
  have e3 : w = lan (p2 a + p2 a / 16) (p2 b + p2 b / 16 + p2 a % 16 * 16) (p2 c + p2 c / 16 + p2 b % 16 * 16) (p2 d + p2 d / 16 + p2 c % 16 * 16) := by
    rw [hw, e2]
    unfold lan
    omega
  have m15 : ∀ x, x &&& 15 = x % 16 := fun x => Nat.and_two_pow_sub_one_eq_mod x 4
  have e4 : v3 = lan (pcb a) (pcb b) (pcb c) (pcb d) := by
    have z0 := lan_and (a := p2 a + p2 a / 16) (b := p2 b + p2 b / 16 + p2 a % 16 * 16) (c := p2 c + p2 c / 16 + p2 b % 16 * 16) (d := p2 d + p2 d / 16 + p2 c % 16 * 16) (m := 15) (s := 0) (by omega) (by omega) (by omega) (by decide) (by decide)
    rw [Nat.shiftRight_zero, Nat.shiftRight_zero, Nat.shiftRight_zero, Nat.shiftRight_zero, Nat.shiftRight_zero, m15, m15, m15, m15, a5, show (p2 b + p2 b / 16 + p2 a % 16 * 16) % 16 = pcb b by omega, show (p2 c + p2 c / 16 + p2 b % 16 * 16) % 16 = pcb c by omega, show (p2 d + p2 d / 16 + p2 c % 16 * 16) % 16 = pcb d by omega] at z0
    rw [h3, e3, show (252645135 : Nat) = lan 15 15 15 15 from rfl, z0]
  refine ⟨?_, ?_, ?_, ?_, ?_⟩
  · rw [hY]; unfold lan; omega
  · rw [e2]; unfold lan; omega
  · rw [e3]; unfold lan; omega
  · rw [e4]; unfold lan; omega
  · rw [cnt_lan hb hc hd]
    have q1 : v3 / 256 = 65536 * pcb a + 256 * pcb b + pcb c := by rw [e4]; unfold lan; omega
    have q2 : (v3 + v3 / 256) / 65536 = 256 * pcb a + (pcb a + pcb b) := by rw [q1, e4]; unfold lan; omega
    have q3 : (v3 + v3 / 256 + (v3 + v3 / 256) / 65536) % 64 = pcb a + pcb b + pcb c + pcb d := by rw [q2, q1, e4]; unfold lan; omega
    omega
def bcV (x1 : Int) : Nat := (uN x1 &&& 858993459) + (uN x1 >>> 2 &&& 858993459)
def bcW (x1 : Int) : Nat := (bcV x1 + bcV x1 / 16) &&& 252645135
theorem bc_sh {v s : Nat} (hs : s < 32) (hv : v < 2147483648) : qUshr (v : Int) (s : Int) = ((v / 2 ^ s : Nat) : Int) := by
  obtain ⟨q, hq⟩ : ∃ q, q = v / 2 ^ s := ⟨_, rfl⟩
  have hle : q ≤ v := by rw [hq]; exact Nat.div_le_self _ _
  rw [← hq]
  refine tb_ext (qUshr_R _ _) ⟨by omega, by omega⟩ (fun k hk => ?_)
  rw [tb_ushr _ k hs, tb_nat (x := (q : Int)) (by omega) k hk, Int.toNat_natCast, hq, Nat.testBit_div_two_pow, tb_uN, nn_uN (by omega) (by omega), Int.toNat_natCast]
theorem bc_x {x x1 : Int} (h : x1 = qSub x (qAnd (qUshr x 1) 1431655765)) : qAnd x1 858993459 = ((uN x1 &&& 858993459 : Nat) : Int) ∧ qAnd (qUshr x1 2) 858993459 = ((uN x1 >>> 2 &&& 858993459 : Nat) : Int) ∧ bcV x1 ≤ 1145324612 ∧ (bcV x1 + bcV x1 / 16 < 2147483648 ∧ bcW x1 ≤ 134744072) ∧ qAnd ((bcV x1 : Int) + ((bcV x1 / 16 : Nat) : Int)) 252645135 = (bcW x1 : Int) ∧ ((bcW x1 + bcW x1 / 256 + (bcW x1 + bcW x1 / 256) / 65536) % 64 : Int) = cnt (fun k => tb x k = true) 32 := by
  have hy : qAnd (qUshr x 1) 1431655765 = ((uN x >>> 1 &&& 1431655765 : Nat) : Int) := msk_uN 1 (by decide) (by decide) (by decide)
  obtain ⟨b1, b2, b3, b4, b5⟩ := bc_all (uN_lt x) rfl rfl rfl rfl rfl
  have hY31 : uN x >>> 1 &&& 1431655765 ≤ 1431655765 := Nat.and_le_right
  have e1 : uN x1 = uN x - (uN x >>> 1 &&& 1431655765) := by
    rw [h, hy, sub_uN (by omega) (by omega) (by rw [Int.toNat_natCast]; exact b1), Int.toNat_natCast]
  have eV : bcV x1 = (uN x - (uN x >>> 1 &&& 1431655765) &&& 858993459) + ((uN x - (uN x >>> 1 &&& 1431655765)) >>> 2 &&& 858993459) := by
    unfold bcV
    rw [e1]
  rw [← eV] at b2 b3 b4 b5
  refine ⟨msk_uN0 (by decide) (by decide), msk_uN 2 (by decide) (by decide) (by decide), b2, ⟨b3, b4⟩, ?_, b5⟩
  rw [show (bcV x1 : Int) + ((bcV x1 / 16 : Nat) : Int) = ((bcV x1 + bcV x1 / 16 : Nat) : Int) by omega, msk_uN0 (by decide) (by decide), nn_uN (by omega) (by omega), Int.toNat_natCast]
  rfl
set_option maxRecDepth 20000 in
set_option maxHeartbeats 4000000 in
theorem c_bits {h : qH} (x : Int) : qEx M_J6_bitCount_0f7a4 0 [qI x] [] h (some (qI (cnt (fun k => tb x k = true) 32))) h := by
  refine q_gen (fun r hr er eh => ?_)
  refine z_iload_n d_J6_bitCount_0f7a4_0 rfl rfl ?_
  refine z_iload_n d_J6_bitCount_0f7a4_1 rfl rfl ?_
  refine z_iconst d_J6_bitCount_0f7a4_2 (by decide) ?_
  refine z_iushr d_J6_bitCount_0f7a4_3 ?_
  refine z_ldcw (n := 1431655765) d_J6_bitCount_0f7a4_4 ct_J6_265 (by decide) (by decide) ?_
  refine z_iand d_J6_bitCount_0f7a4_7 ?_
  refine z_isubw d_J6_bitCount_0f7a4_8 ?_
  refine z_istore_n (ls' := [qI (qSub x (qAnd (qUshr x 1) 1431655765))]) d_J6_bitCount_0f7a4_9 rfl (by decide) rfl ?_
  obtain ⟨x1, hx1⟩ : ∃ x1, x1 = qSub x (qAnd (qUshr x 1) 1431655765) := ⟨_, rfl⟩
  rw [← hx1]
  obtain ⟨f1, f2, f3, f4, f5, f6⟩ := bc_x hx1
  have f7 : bcV x1 = (uN x1 &&& 858993459) + (uN x1 >>> 2 &&& 858993459) := rfl
  refine z_iload_n d_J6_bitCount_0f7a4_10 rfl rfl ?_
  refine z_ldcw (n := 858993459) d_J6_bitCount_0f7a4_11 ct_J6_266 (by decide) (by decide) ?_
  refine z_iand d_J6_bitCount_0f7a4_14 ?_
  refine z_iload_n d_J6_bitCount_0f7a4_15 rfl rfl ?_
  refine z_iconst d_J6_bitCount_0f7a4_16 (by decide) ?_
  refine z_iushr d_J6_bitCount_0f7a4_17 ?_
  refine z_ldcw (n := 858993459) d_J6_bitCount_0f7a4_18 ct_J6_266 (by decide) (by decide) ?_
  refine z_iand d_J6_bitCount_0f7a4_21 ?_
  refine z_eq rfl (qc rfl (qc (qi (show (qAnd x1 858993459) = ((uN x1 &&& 858993459 : Nat) : Int) from f1)) rfl)) rfl ?_
  refine z_eq rfl (qc (qi (show (qAnd (qUshr x1 2) 858993459) = ((uN x1 >>> 2 &&& 858993459 : Nat) : Int) from f2)) rfl) rfl ?_
  refine z_iadd d_J6_bitCount_0f7a4_22 (by omega) ?_
  refine z_istore_n (ls' := [qI (((uN x1 &&& 858993459 : Nat) : Int) + ((uN x1 >>> 2 &&& 858993459 : Nat) : Int))]) d_J6_bitCount_0f7a4_23 rfl (by decide) rfl ?_
  refine z_eq (qc (qi (show (((uN x1 &&& 858993459 : Nat) : Int) + ((uN x1 >>> 2 &&& 858993459 : Nat) : Int)) = (bcV x1 : Int) from (by unfold bcV; omega))) rfl) rfl rfl ?_
  refine z_iload_n d_J6_bitCount_0f7a4_24 rfl rfl ?_
  refine z_iload_n d_J6_bitCount_0f7a4_25 rfl rfl ?_
  refine z_iconst d_J6_bitCount_0f7a4_26 (by decide) ?_
  refine z_iushr d_J6_bitCount_0f7a4_27 ?_
  refine z_eq rfl (qc (qi (show (qUshr (bcV x1 : Int) 4) = ((bcV x1 / 16 : Nat) : Int) from bc_sh (s := 4) (by decide) (by omega))) rfl) rfl ?_
  refine z_iadd d_J6_bitCount_0f7a4_28 (by omega) ?_
  refine z_ldcw (n := 252645135) d_J6_bitCount_0f7a4_29 ct_J6_267 (by decide) (by decide) ?_
  refine z_iand d_J6_bitCount_0f7a4_32 ?_
  refine z_eq rfl (qc (qi (show (qAnd ((bcV x1 : Int) + ((bcV x1 / 16 : Nat) : Int)) 252645135) = (bcW x1 : Int) from f5)) rfl) rfl ?_
  refine z_istore_n (ls' := [qI (bcW x1 : Int)]) d_J6_bitCount_0f7a4_33 rfl (by decide) rfl ?_
  refine z_iload_n d_J6_bitCount_0f7a4_34 rfl rfl ?_
  refine z_iload_n d_J6_bitCount_0f7a4_35 rfl rfl ?_
  refine z_bipush d_J6_bitCount_0f7a4_36 (by decide) ?_
  refine z_iushr d_J6_bitCount_0f7a4_38 ?_
  refine z_eq rfl (qc (qi (show (qUshr (bcW x1 : Int) 8) = ((bcW x1 / 256 : Nat) : Int) from bc_sh (s := 8) (by decide) (by omega))) rfl) rfl ?_
  refine z_iadd d_J6_bitCount_0f7a4_39 (by omega) ?_
  refine z_istore_n (ls' := [qI ((bcW x1 : Int) + ((bcW x1 / 256 : Nat) : Int))]) d_J6_bitCount_0f7a4_40 rfl (by decide) rfl ?_
  refine z_eq (qc (qi (show ((bcW x1 : Int) + ((bcW x1 / 256 : Nat) : Int)) = ((bcW x1 + bcW x1 / 256 : Nat) : Int) from (by omega))) rfl) rfl rfl ?_
  refine z_iload_n d_J6_bitCount_0f7a4_41 rfl rfl ?_
  refine z_iload_n d_J6_bitCount_0f7a4_42 rfl rfl ?_
  refine z_bipush d_J6_bitCount_0f7a4_43 (by decide) ?_
  refine z_iushr d_J6_bitCount_0f7a4_45 ?_
  refine z_eq rfl (qc (qi (show (qUshr ((bcW x1 + bcW x1 / 256 : Nat) : Int) 16) = (((bcW x1 + bcW x1 / 256) / 65536 : Nat) : Int) from bc_sh (s := 16) (by decide) (by omega))) rfl) rfl ?_
  refine z_iadd d_J6_bitCount_0f7a4_46 (by omega) ?_
  refine z_istore_n (ls' := [qI (((bcW x1 + bcW x1 / 256 : Nat) : Int) + (((bcW x1 + bcW x1 / 256) / 65536 : Nat) : Int))]) d_J6_bitCount_0f7a4_47 rfl (by decide) rfl ?_
  refine z_iload_n d_J6_bitCount_0f7a4_48 rfl rfl ?_
  refine z_bipush d_J6_bitCount_0f7a4_49 (by decide) ?_
  refine z_iand d_J6_bitCount_0f7a4_51 ?_
  exact z_iret d_J6_bitCount_0f7a4_52 rfl (qer er (f6.symm.trans (by rw [show ((bcW x1 + bcW x1 / 256 : Nat) : Int) + (((bcW x1 + bcW x1 / 256) / 65536 : Nat) : Int) = ((bcW x1 + bcW x1 / 256 + (bcW x1 + bcW x1 / 256) / 65536 : Nat) : Int) from by omega, msk_uN0 (by decide) (by decide), nn_uN (by omega) (by omega), Int.toNat_natCast, show (63 : Int).toNat = 2 ^ 6 - 1 from rfl, Nat.and_two_pow_sub_one_eq_mod, show (2 : Nat) ^ 6 = 64 from rfl]; omega))) eh
