/-! SUMS OF BYTES -/
theorem s_and (a b : Nat) : nI a &&& nI b = nI (a &&& b) := by
  apply Int32.toBitVec_inj.mp
  show BitVec.ofNat 32 a &&& BitVec.ofNat 32 b = BitVec.ofNat 32 (a &&& b)
  rw [BitVec.ofNat_and]
theorem s_xor (a b : Nat) : nI a ^^^ nI b = nI (a ^^^ b) := by
  apply Int32.toBitVec_inj.mp
  show BitVec.ofNat 32 a ^^^ BitVec.ofNat 32 b = BitVec.ofNat 32 (a ^^^ b)
  rw [BitVec.ofNat_xor]
theorem xor_dbl (a b : Nat) : (2 * a) ^^^ (2 * b) = 2 * (a ^^^ b) := by
  apply Nat.eq_of_testBit_eq
  intro i
  cases i with
  | zero => simp [Nat.testBit_xor, Nat.testBit_zero]
  | succ i =>
    rw [Nat.testBit_xor]
    simp only [Nat.testBit_succ]
    rw [Nat.mul_div_cancel_left a (by decide), Nat.mul_div_cancel_left b (by decide), Nat.mul_div_cancel_left (a ^^^ b) (by decide), Nat.testBit_xor]
/-- 16 bits: the class's step, the reference's step -/
def f16 (x : Nat) : Nat := if x.testBit 15 then (2 * x) ^^^ 4129 else 2 * x
def m16 (m : Nat) (β : Bool) : Nat := if m.testBit 15 = β then (2 * m) % 65536 else ((2 * m) % 65536) ^^^ 4129
theorem m16_lt (m : Nat) (β : Bool) : m16 m β < 65536 := by
  unfold m16
  have h : (2 * m) % 65536 < 2 ^ 16 := by omega
  split
  · omega
  · exact Nat.xor_lt_two_pow h (by decide)
theorem s16 {x m B : Nat} (h : x % 65536 = m ^^^ (B % 65536)) (hm : m < 65536) : f16 x % 65536 = m16 m (B.testBit 15) ^^^ ((2 * B) % 65536) := by
  have e16 : (65536 : Nat) = 2 ^ 16 := rfl
  have h1 : (2 * x) % 65536 = ((2 * m) % 65536) ^^^ ((2 * B) % 65536) := by
    have a1 : (2 * x) % 65536 = (2 * (x % 65536)) % 65536 := by omega
    have a2 : (2 * B) % 65536 = (2 * (B % 65536)) % 65536 := by omega
    rw [a1, h, ← xor_dbl, a2, e16, Nat.xor_mod_two_pow]
  have h2 : x.testBit 15 = (m.testBit 15 ^^ B.testBit 15) := by
    have a1 : (x % 65536).testBit 15 = x.testBit 15 := by rw [e16, Nat.testBit_mod_two_pow]; simp
    have a2 : (B % 65536).testBit 15 = B.testBit 15 := by rw [e16, Nat.testBit_mod_two_pow]; simp
    rw [← a1, h, Nat.testBit_xor, a2]
  unfold f16 m16
  rw [h2]
  by_cases c : m.testBit 15 = B.testBit 15
  · rw [if_pos c, c, Bool.xor_self, if_neg (by decide), h1]
  · have c2 : (m.testBit 15 ^^ B.testBit 15) = true := by
      cases p : m.testBit 15 <;> cases q : B.testBit 15 <;> simp_all
    rw [if_neg c, c2, if_pos rfl, e16, Nat.xor_mod_two_pow, ← e16, h1, Nat.mod_eq_of_lt (show 4129 < 65536 by decide), Nat.xor_assoc, Nat.xor_assoc, Nat.xor_comm ((2 * B) % 65536)]
theorem tb15 {x : Nat} : (nI x &&& 32768 = 0) ↔ x.testBit 15 = false := by
  have hle : x &&& 2 ^ 15 ≤ 2 ^ 15 := Nat.and_le_right
  rw [show (32768 : Int32) = nI (2 ^ 15) from rfl, s_and, q_z (by omega)]
  constructor
  · intro h
    have h2 : (x &&& 2 ^ 15).testBit 15 = false := by rw [h]; exact Nat.zero_testBit 15
    rw [Nat.testBit_and, Nat.testBit_two_pow_self, Bool.and_true] at h2
    exact h2
  · intro h
    apply Nat.eq_of_testBit_eq
    intro i
    rw [Nat.testBit_and, Nat.testBit_two_pow, Nat.zero_testBit]
    by_cases c : 15 = i
    · rw [← c, h]; rfl
    · rw [decide_eq_false c, Bool.and_false]
/-- the class's inner loop -/
theorem c16_step {p0 p1 i : Int32} {n k x : Nat} (hk : k < 8) (hx : x < 2 ^ 30) : LX0_sumOf16_27 p0 p1 i (n + 1) (nI x) (nI k) = LX0_sumOf16_27 p0 p1 i n (nI (f16 x)) (nI (k + 1)) := by
  rw [LX0_sumOf16_27, if_neg (by rw [q_ge (x := 8) 8 (by omega) (by decide) rfl]; omega)]
  dsimp only
  rw [nI_1, pk_shlN (n := x) _ 1 (by decide) (by omega)]
  unfold f16
  by_cases c : nI x &&& 32768 = 0
  · rw [if_pos c, tb15.mp c, if_neg (by decide), show x * 2 ^ 1 = 2 * x by omega]
  · have c2 : x.testBit 15 = true := by
      cases h : x.testBit 15
      · exact absurd (tb15.mpr h) c
      · rfl
    rw [if_neg c, c2, if_pos rfl, show (4129 : Int32) = nI 4129 from rfl, s_xor, show x * 2 ^ 1 = 2 * x by omega]
theorem f16_lt {x j : Nat} (h : x < 2 ^ (16 + j)) : f16 x < 2 ^ (16 + (j + 1)) := by
  have h1 : 2 * x < 2 ^ (16 + (j + 1)) := by rw [show 16 + (j + 1) = (16 + j) + 1 by omega, Nat.pow_succ]; omega
  unfold f16
  split
  · refine Nat.xor_lt_two_pow h1 ?_
    have : 2 ^ 16 ≤ 2 ^ (16 + (j + 1)) := Nat.pow_le_pow_right (by decide) (by omega)
    omega
  · exact h1
/-- the reference's loop -/
theorem b7 {b k : Nat} (hb : b < 256) (hk : k < 8) : ((nI b >>> (nI k &&& 31)) &&& 1) = nI (b / 2 ^ k % 2) := by
  have hs : ∀ k, k < 8 → ((nI k &&& 31).toBitVec.smod 32).toNat = k := by decide
  rw [pk_shrN (by omega) _ k (hs k hk), pk_andN (k := 1) (by have := Nat.div_le_self b (2 ^ k); omega) (by decide)]
theorem m16_step {p0 : Int32} {n k m b : Nat} (hk : k < 8) (hm : m < 65536) (hb : b < 256) : LX3_sum16_5 (n + 1) p0 (nI b) (nI m) (nI k) = LX3_sum16_5 n p0 (nI b) (nI (m16 m (b.testBit k))) (nI k + (-1)) := by
  rw [LX3_sum16_5, if_neg (nI_pos (by omega))]
  dsimp only
  rw [b7 hb hk, pk_shlN (n := m) _ 1 (by decide) (by omega), pk_shrN (n := m) (by omega) _ 15 (by decide), pk_andN (k := 1) (by have := Nat.div_le_self m (2 ^ 15); omega) (by decide), show (65535 : Int32) = nI 65535 from rfl]
  rw [show nI (m * 2 ^ 1) &&& nI 65535 = nI ((2 * m) % 65536) from by rw [show m * 2 ^ 1 = 2 * m by omega]; exact pk_andN (m := 65535) (k := 16) (by omega) (by decide)]
  have e : (nI (m / 2 ^ 15 % 2 ^ 1) = nI (b / 2 ^ k % 2)) ↔ m.testBit 15 = b.testBit k := by
    rw [nI_eq (by omega) (by omega), Nat.testBit_eq_decide_div_mod_eq, Nat.testBit_eq_decide_div_mod_eq]
    by_cases p : m / 2 ^ 15 % 2 = 1
    · by_cases q : b / 2 ^ k % 2 = 1
      · simp [p, q]
      · simp [p, q] <;> omega
    · by_cases q : b / 2 ^ k % 2 = 1
      · simp [p, q] <;> omega
      · simp [p, q] <;> omega
  unfold m16
  by_cases c : m.testBit 15 = b.testBit k
  · rw [if_pos (e.mpr c), if_pos c]
  · rw [if_neg (fun q => c (e.mp q)), if_neg c, show (4129 : Int32) = nI 4129 from rfl, s_xor]
theorem m16_all {p0 : Int32} {m b : Nat} (hm : m < 65536) (hb : b < 256) : LX3_sum16_5 9 p0 (nI b) (nI m) 7 = nI (m16 (m16 (m16 (m16 (m16 (m16 (m16 (m16 m (b.testBit 7)) (b.testBit 6)) (b.testBit 5)) (b.testBit 4)) (b.testBit 3)) (b.testBit 2)) (b.testBit 1)) (b.testBit 0)) := by
  rw [show LX3_sum16_5 9 p0 (nI b) (nI m) 7 = LX3_sum16_5 9 p0 (nI b) (nI m) (nI 7) from rfl]
  rw [m16_step (by omega) hm hb, pk_m1 6, m16_step (by omega) (m16_lt _ _) hb, pk_m1 5, m16_step (by omega) (m16_lt _ _) hb, pk_m1 4, m16_step (by omega) (m16_lt _ _) hb, pk_m1 3, m16_step (by omega) (m16_lt _ _) hb, pk_m1 2, m16_step (by omega) (m16_lt _ _) hb, pk_m1 1, m16_step (by omega) (m16_lt _ _) hb, pk_m1 0, m16_step (by omega) (m16_lt _ _) hb, LX3_sum16_5]
  rw [if_pos (by decide)]
theorem c16_all {p0 p1 i : Int32} {x : Nat} (hx : x < 65536) : (LX0_sumOf16_27 p0 p1 i 9 (nI x) 0).1 = nI (f16 (f16 (f16 (f16 (f16 (f16 (f16 (f16 x)))))))) := by
  have l0 : x < 2 ^ (16 + 0) := hx
  have l1 := f16_lt l0
  have l2 := f16_lt l1
  have l3 := f16_lt l2
  have l4 := f16_lt l3
  have l5 := f16_lt l4
  have l6 := f16_lt l5
  have l7 := f16_lt l6
  rw [show LX0_sumOf16_27 p0 p1 i 9 (nI x) 0 = LX0_sumOf16_27 p0 p1 i 9 (nI x) (nI 0) from rfl]
  rw [c16_step (by omega) (by omega), c16_step (by omega) (by omega), c16_step (by omega) (by omega), c16_step (by omega) (by omega), c16_step (by omega) (by omega), c16_step (by omega) (by omega), c16_step (by omega) (by omega), c16_step (by omega) (by omega), LX0_sumOf16_27]
  rw [if_pos (by rw [q_ge (x := 8) 8 (by omega) (by decide) rfl]; omega)]
theorem tb_sh {b k : Nat} : (b * 2 ^ (8 + k)).testBit 15 = (decide (8 + k ≤ 15) && b.testBit (15 - (8 + k))) := by
  rw [Nat.mul_comm, Nat.testBit_two_pow_mul]
/-- one byte's 16 bits -/
theorem one16 {p0 p1 p2 i : Int32} {m b : Nat} (hm : m < 65536) (hb : b < 256) : ((LX0_sumOf16_27 p0 p1 i 9 (nI m ^^^ (nI b <<< (8 &&& 31))) 0).1 &&& 65535) = LX3_sum16_5 9 p2 (nI b) (nI m) 7 ∧ ∃ m', m' < 65536 ∧ LX3_sum16_5 9 p2 (nI b) (nI m) 7 = nI m' := by
  have hb8 : b * 2 ^ 8 < 2 ^ 16 := by omega
  have hx : m ^^^ (b * 2 ^ 8) < 65536 := Nat.xor_lt_two_pow (n := 16) hm hb8
  rw [m16_all hm hb, pk_shlN (n := b) _ 8 (by decide) (by omega), s_xor, c16_all hx]
  refine ⟨?_, _, m16_lt _ _, rfl⟩
  rw [show nI (f16 (f16 (f16 (f16 (f16 (f16 (f16 (f16 (m ^^^ (b * 2 ^ 8)))))))))) &&& 65535 = nI (f16 (f16 (f16 (f16 (f16 (f16 (f16 (f16 (m ^^^ (b * 2 ^ 8))))))))) % 65536) from by
    rw [show (65535 : Int32) = nI 65535 from rfl, s_and, show (65535 : Nat) = 2 ^ 16 - 1 from rfl, Nat.and_two_pow_sub_one_eq_mod]]
  have B : ∀ k, 2 * (b * 2 ^ (8 + k)) = b * 2 ^ (8 + (k + 1)) := fun k => by rw [show 8 + (k + 1) = (8 + k) + 1 by omega, Nat.pow_succ, ← Nat.mul_assoc b, Nat.mul_comm 2]
  have T : ∀ k, k < 8 → (b * 2 ^ (8 + k)).testBit 15 = b.testBit (7 - k) := fun k hk => by
    rw [tb_sh, decide_eq_true (by omega), Bool.true_and]; congr 1; omega
  have h0 : (m ^^^ (b * 2 ^ 8)) % 65536 = m ^^^ ((b * 2 ^ (8 + 0)) % 65536) := by
    rw [Nat.mod_eq_of_lt hx, Nat.mod_eq_of_lt (show b * 2 ^ (8 + 0) < 65536 from hb8)]
  have h1 := s16 h0 hm
  rw [T 0 (by omega), B 0] at h1
  have h2 := s16 h1 (m16_lt _ _)
  rw [T 1 (by omega), B 1] at h2
  have h3 := s16 h2 (m16_lt _ _)
  rw [T 2 (by omega), B 2] at h3
  have h4 := s16 h3 (m16_lt _ _)
  rw [T 3 (by omega), B 3] at h4
  have h5 := s16 h4 (m16_lt _ _)
  rw [T 4 (by omega), B 4] at h5
  have h6 := s16 h5 (m16_lt _ _)
  rw [T 5 (by omega), B 5] at h6
  have h7 := s16 h6 (m16_lt _ _)
  rw [T 6 (by omega), B 6] at h7
  have h8 := s16 h7 (m16_lt _ _)
  rw [T 7 (by omega), B 7] at h8
  rw [h8, show (b * 2 ^ (8 + (7 + 1))) % 65536 = 0 from by rw [show (8 + (7 + 1)) = 16 from rfl]; omega, Nat.xor_zero]
/-- 32 bits -/
def f32 (x : Nat) : Nat := if x % 2 = 1 then (x / 2) ^^^ 3988292384 else x / 2
def m32 (m : Nat) (β : Bool) : Nat := if decide (m % 2 = 1) = β then m / 2 else (m / 2) ^^^ 3988292384
theorem f32_lt {x : Nat} (h : x < 2 ^ 32) : f32 x < 2 ^ 32 := by
  unfold f32; split
  · exact Nat.xor_lt_two_pow (by omega) (by decide)
  · omega
theorem m32_lt {x : Nat} {β : Bool} (h : x < 2 ^ 32) : m32 x β < 2 ^ 32 := by
  unfold m32; split
  · omega
  · exact Nat.xor_lt_two_pow (by omega) (by decide)
theorem s32 {x m B : Nat} (h : x = m ^^^ B) : f32 x = m32 m (B.testBit 0) ^^^ (B / 2) := by
  have h1 : x / 2 = (m / 2) ^^^ (B / 2) := by rw [h, Nat.xor_div_two]
  have h2 : (x % 2 = 1) ↔ ¬ (m % 2 = 1 ↔ B % 2 = 1) := by rw [h, Nat.xor_mod_two_eq_one]
  unfold f32 m32
  rw [Nat.testBit_zero]
  by_cases c : x % 2 = 1
  · have c2 : ¬ decide (m % 2 = 1) = decide (B % 2 = 1) := fun q => (h2.mp c) (by simpa using q)
    rw [if_pos c, if_neg c2, h1, Nat.xor_assoc, Nat.xor_assoc, Nat.xor_comm (B / 2)]
  · have c2 : decide (m % 2 = 1) = decide (B % 2 = 1) := by
      by_cases p : m % 2 = 1 <;> by_cases q : B % 2 = 1 <;> simp_all
    rw [if_neg c, if_pos c2, h1]
theorem ush1 {x : Nat} (hx : x < 2 ^ 32) : ((nI x).toUInt32 >>> ((1 : Int32).toUInt32 &&& Int32.toUInt32 31)).toInt32 = nI (x / 2) := by
  have := pk_ushrN hx 1 1 (by decide)
  rw [this]
theorem and_1 {x : Nat} (hx : x < 2 ^ 32) : nI x &&& 1 = nI (x % 2) := pk_andN (k := 1) hx (by decide)
theorem c32_step {p0 p1 i : Int32} {n k x : Nat} (hk : k < 8) (hx : x < 2 ^ 32) : LX0_sumOf32_23 p0 p1 i (n + 1) (nI x) (nI k) = LX0_sumOf32_23 p0 p1 i n (nI (f32 x)) (nI (k + 1)) := by
  rw [LX0_sumOf32_23, if_neg (by rw [q_ge (x := 8) 8 (by omega) (by decide) rfl]; omega)]
  dsimp only
  rw [nI_1, ush1 hx, and_1 hx]
  unfold f32
  by_cases c : x % 2 = 1
  · rw [if_neg (by rw [q_z (by omega)]; omega), if_pos c, show (-306674912 : Int32) = nI 3988292384 from by decide, s_xor]
  · rw [if_pos (by rw [q_z (by omega)]; omega), if_neg c]
theorem m32_step {p0 : Int32} {n k m b : Nat} (hk : k < 8) (hm : m < 2 ^ 32) (hb : b < 256) : LX3_sum32_4 (n + 1) p0 (nI b) (nI m) (nI k) = LX3_sum32_4 n p0 (nI b) (nI (m32 m (b.testBit k))) (nI (k + 1)) := by
  rw [LX3_sum32_4, if_neg (by rw [q_ge (x := 8) 8 (by omega) (by decide) rfl]; omega)]
  dsimp only
  rw [nI_1, ush1 hm, and_1 hm, b7 hb hk]
  have e : (nI (m % 2) = nI (b / 2 ^ k % 2)) ↔ decide (m % 2 = 1) = b.testBit k := by
    rw [nI_eq (by omega) (by omega), Nat.testBit_eq_decide_div_mod_eq]
    by_cases p : m % 2 = 1
    · by_cases q : b / 2 ^ k % 2 = 1
      · simp [p, q]
      · simp [p, q] <;> omega
    · by_cases q : b / 2 ^ k % 2 = 1
      · simp [p, q] <;> omega
      · simp [p, q] <;> omega
  unfold m32
  by_cases c : decide (m % 2 = 1) = b.testBit k
  · rw [if_pos (e.mpr c), if_pos c]
  · rw [if_neg (fun q => c (e.mp q)), if_neg c, show (-306674912 : Int32) = nI 3988292384 from by decide, s_xor]
theorem one32 {p0 p1 p2 i : Int32} {m b : Nat} (hm : m < 2 ^ 32) (hb : b < 256) : (LX0_sumOf32_23 p0 p1 i 9 (nI m ^^^ nI b) 0).1 = LX3_sum32_4 9 p2 (nI b) (nI m) 0 ∧ ∃ m', m' < 2 ^ 32 ∧ LX3_sum32_4 9 p2 (nI b) (nI m) 0 = nI m' := by
  have hx : m ^^^ b < 2 ^ 32 := Nat.xor_lt_two_pow hm (by omega)
  have l1 := f32_lt hx
  have l2 := f32_lt l1
  have l3 := f32_lt l2
  have l4 := f32_lt l3
  have l5 := f32_lt l4
  have l6 := f32_lt l5
  have l7 := f32_lt l6
  have k1 := m32_lt (β := b.testBit 0) hm
  have k2 := m32_lt (β := b.testBit 1) k1
  have k3 := m32_lt (β := b.testBit 2) k2
  have k4 := m32_lt (β := b.testBit 3) k3
  have k5 := m32_lt (β := b.testBit 4) k4
  have k6 := m32_lt (β := b.testBit 5) k5
  have k7 := m32_lt (β := b.testBit 6) k6
  have k8 := m32_lt (β := b.testBit 7) k7
  have em : LX3_sum32_4 9 p2 (nI b) (nI m) 0 = nI (m32 (m32 (m32 (m32 (m32 (m32 (m32 (m32 m (b.testBit 0)) (b.testBit 1)) (b.testBit 2)) (b.testBit 3)) (b.testBit 4)) (b.testBit 5)) (b.testBit 6)) (b.testBit 7)) := by
    rw [show LX3_sum32_4 9 p2 (nI b) (nI m) 0 = LX3_sum32_4 9 p2 (nI b) (nI m) (nI 0) from rfl]
    rw [m32_step (by omega) hm hb, m32_step (k := 1) (by omega) k1 hb, m32_step (k := 2) (by omega) k2 hb, m32_step (k := 3) (by omega) k3 hb, m32_step (k := 4) (by omega) k4 hb, m32_step (k := 5) (by omega) k5 hb, m32_step (k := 6) (by omega) k6 hb, m32_step (k := 7) (by omega) k7 hb, LX3_sum32_4]
    rw [if_pos (by rw [q_ge (x := 8) 8 (by omega) (by decide) rfl]; omega)]
  have ec : (LX0_sumOf32_23 p0 p1 i 9 (nI m ^^^ nI b) 0).1 = nI (f32 (f32 (f32 (f32 (f32 (f32 (f32 (f32 (m ^^^ b))))))))) := by
    rw [s_xor, show LX0_sumOf32_23 p0 p1 i 9 (nI (m ^^^ b)) 0 = LX0_sumOf32_23 p0 p1 i 9 (nI (m ^^^ b)) (nI 0) from rfl]
    rw [c32_step (by omega) hx, c32_step (by omega) l1, c32_step (by omega) l2, c32_step (by omega) l3, c32_step (by omega) l4, c32_step (by omega) l5, c32_step (by omega) l6, c32_step (by omega) l7, LX0_sumOf32_23]
    rw [if_pos (by rw [q_ge (x := 8) 8 (by omega) (by decide) rfl]; omega)]
  rw [em, ec]
  refine ⟨?_, _, k8, rfl⟩
  have T : ∀ k, (b / 2 ^ k).testBit 0 = b.testBit k := fun k => by rw [Nat.testBit_zero, Nat.testBit_eq_decide_div_mod_eq]
  have D : ∀ k, b / 2 ^ k / 2 = b / 2 ^ (k + 1) := fun k => by rw [Nat.div_div_eq_div_mul, Nat.pow_succ]
  have h0 : m ^^^ b = m ^^^ (b / 2 ^ 0) := by rw [Nat.pow_zero, Nat.div_one]
  have h1 := s32 h0
  rw [T 0, D 0] at h1
  have h2 := s32 h1
  rw [T (0 + 1), D (0 + 1)] at h2
  have h3 := s32 h2
  rw [T (0 + 1 + 1), D (0 + 1 + 1)] at h3
  have h4 := s32 h3
  rw [T (0 + 1 + 1 + 1), D (0 + 1 + 1 + 1)] at h4
  have h5 := s32 h4
  rw [T (0 + 1 + 1 + 1 + 1), D (0 + 1 + 1 + 1 + 1)] at h5
  have h6 := s32 h5
  rw [T (0 + 1 + 1 + 1 + 1 + 1), D (0 + 1 + 1 + 1 + 1 + 1)] at h6
  have h7 := s32 h6
  rw [T (0 + 1 + 1 + 1 + 1 + 1 + 1), D (0 + 1 + 1 + 1 + 1 + 1 + 1)] at h7
  have h8 := s32 h7
  rw [T (0 + 1 + 1 + 1 + 1 + 1 + 1 + 1), D (0 + 1 + 1 + 1 + 1 + 1 + 1 + 1)] at h8
  rw [h8, show b / 2 ^ (0 + 1 + 1 + 1 + 1 + 1 + 1 + 1 + 1) = 0 from by rw [show 0 + 1 + 1 + 1 + 1 + 1 + 1 + 1 + 1 = 8 from rfl]; omega, Nat.xor_zero]
