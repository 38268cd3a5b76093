-- the JDK's bitCount and numberOfTrailingZeros
theorem qp_step {b m : Nat} (hb : b < 256) (hm : m < 256) (X M : Nat) : (b + 256 * X) &&& (m + 256 * M) = (b &&& m) + 256 * (X &&& M) := by
  have h2 : b &&& m < 2 ^ 8 := Nat.lt_of_le_of_lt Nat.and_le_left hb
  apply Nat.eq_of_testBit_eq
  intro i
  have e1 : b + 256 * X = 2 ^ 8 * X + b := by omega
  have e2 : m + 256 * M = 2 ^ 8 * M + m := by omega
  have e3 : (b &&& m) + 256 * (X &&& M) = 2 ^ 8 * (X &&& M) + (b &&& m) := by omega
  rw [Nat.testBit_and, e1, e2, e3, Nat.testBit_two_pow_mul_add _ hb, Nat.testBit_two_pow_mul_add _ hm, Nat.testBit_two_pow_mul_add _ h2]
  by_cases h : i < 8
  · rw [if_pos h, if_pos h, if_pos h, Nat.testBit_and]
  · rw [if_neg h, if_neg h, if_neg h, Nat.testBit_and]
/-- a byte repeated -/
def mkb (m : Nat) : Nat → Nat
  | 0 => 0
  | k + 1 => m + 256 * mkb m k
/-- byte by byte -/
def tb (g : Nat → Nat) : Nat → Nat → Nat
  | 0, _ => 0
  | k + 1, x => g (x % 256) + 256 * tb g k (x / 256)
theorem tb_congr {g h : Nat → Nat} (e : ∀ b, b < 256 → g b = h b) : ∀ k x, tb g k x = tb h k x
  | 0, _ => rfl
  | k + 1, x => by rw [tb, tb, e _ (Nat.mod_lt _ (by decide)), tb_congr e k]
theorem tb_id : ∀ k x, x < 256 ^ k → tb (fun b => b) k x = x
  | 0, x, h => by have : x = 0 := by simpa using h
                  rw [this]; rfl
  | k + 1, x, h => by
    rw [tb, tb_id k (x / 256) (by rw [Nat.pow_succ] at h; exact Nat.div_lt_of_lt_mul (by rw [Nat.mul_comm]; exact h))]
    omega
theorem tb_add (g h : Nat → Nat) : ∀ k x, tb g k x + tb h k x = tb (fun b => g b + h b) k x
  | 0, _ => rfl
  | k + 1, x => by rw [tb, tb, tb, ← tb_add g h k (x / 256)]; omega
theorem tb_sub (g h : Nat → Nat) (hh : ∀ b, b < 256 → h b ≤ g b) : ∀ k x, tb h k x ≤ tb g k x ∧ tb g k x - tb h k x = tb (fun b => g b - h b) k x
  | 0, _ => ⟨Nat.le_refl _, rfl⟩
  | k + 1, x => by
    have h1 := hh (x % 256) (Nat.mod_lt _ (by decide))
    have h2 := tb_sub g h hh k (x / 256)
    rw [tb, tb, tb, ← h2.2]
    omega
theorem tb_and (g : Nat → Nat) (m : Nat) (hm : m < 256) (hg : ∀ b, b < 256 → g b < 256) : ∀ k x, tb g k x &&& mkb m k = tb (fun b => g b &&& m) k x
  | 0, _ => by rw [tb, tb, mkb, Nat.and_zero]
  | k + 1, x => by rw [tb, tb, mkb, qp_step (hg _ (Nat.mod_lt _ (by decide))) hm, tb_and g m hm hg k]
theorem tb_sh (g : Nat → Nat) (m j p q : Nat) (hm : m < 256) (hp : p * q = 256) (h0 : 0 < p) (hg : ∀ b, b < 256 → g b < 256)
    (hc : ∀ b, b < 256 → ∀ c, c < p → (b / p + q * c) &&& m = (b / p) &&& m) : ∀ k x, (tb g k x / p) &&& mkb m k = tb (fun b => (g b / p) &&& m) k x
  | 0, _ => by rw [tb, tb, mkb, Nat.and_zero]
  | k + 1, x => by
    have hb := hg (x % 256) (Nat.mod_lt _ (by decide))
    have e : (g (x % 256) + 256 * tb g k (x / 256)) / p = (g (x % 256) / p + q * (tb g k (x / 256) % p)) + 256 * (tb g k (x / 256) / p) := by
      have e1 : 256 * tb g k (x / 256) = p * (q * tb g k (x / 256)) := by rw [← Nat.mul_assoc, hp]
      rw [e1, Nat.add_mul_div_left _ _ h0]
      have e2 : q * tb g k (x / 256) = q * (tb g k (x / 256) % p) + 256 * (tb g k (x / 256) / p) := by
        have e3 := Nat.div_add_mod (tb g k (x / 256)) p
        have e4 : 256 * (tb g k (x / 256) / p) = q * (p * (tb g k (x / 256) / p)) := by rw [← Nat.mul_assoc, Nat.mul_comm q p, hp]
        rw [e4, ← Nat.mul_add, Nat.add_comm (tb g k (x / 256) % p), e3]
      omega
    have hq : g (x % 256) / p + q * (tb g k (x / 256) % p) < 256 := by
      have a1 : g (x % 256) / p < q := Nat.div_lt_of_lt_mul (by omega)
      have a2 : tb g k (x / 256) % p + 1 ≤ p := Nat.mod_lt _ h0
      have a3 : q * (tb g k (x / 256) % p + 1) ≤ q * p := Nat.mul_le_mul_left q a2
      rw [Nat.mul_comm q p, hp, Nat.mul_add] at a3
      omega
    rw [tb, tb, mkb, e, qp_step hq hm, hc _ hb _ (Nat.mod_lt _ h0), tb_sh g m j p q hm hp h0 hg hc k]
/-- one byte's steps -/
def b1 (b : Nat) : Nat := b - ((b / 2) &&& 85)
def b2 (b : Nat) : Nat := (b1 b &&& 51) + ((b1 b / 4) &&& 51)
def b4 (b : Nat) : Nat := b2 b % 16 + b2 b / 16
theorem b1_lt : ∀ b, b < 256 → b1 b < 256 := by decide +kernel
theorem b1_le : ∀ b, b < 256 → (b / 2) &&& 85 ≤ b := by decide +kernel
theorem b2_lt : ∀ b, b < 256 → b2 b ≤ 68 ∧ b2 b % 16 ≤ 4 := by decide +kernel
theorem b4_pc : ∀ b, b < 256 → b4 b = pc b 8 := by decide +kernel
theorem qp_h1 : ∀ b, b < 256 → ∀ c, c < 2 → (b / 2 + 128 * c) &&& 85 = (b / 2) &&& 85 := by decide +kernel
theorem qp_h2 : ∀ b, b < 256 → ∀ c, c < 4 → (b / 4 + 64 * c) &&& 51 = (b / 4) &&& 51 := by decide +kernel
theorem qp_h4 : ∀ b, b ≤ 68 → b % 16 ≤ 4 → ∀ c, c ≤ 4 → (b + b / 16 + 16 * c) &&& 15 = b % 16 + b / 16 := by decide +kernel
theorem qp_s1 (k x : Nat) (hx : x < 256 ^ k) : (x / 2) &&& mkb 85 k ≤ x ∧ x - ((x / 2) &&& mkb 85 k) = tb b1 k x := by
  have e0 := tb_id k x hx
  have e1 := tb_sh (fun b => b) 85 0 2 128 (by decide) (by decide) (by decide) (fun b h => h) qp_h1 k x
  rw [e0] at e1
  have e2 := tb_sub (fun b => b) (fun b => (b / 2) &&& 85) b1_le k x
  rw [e0, ← e1] at e2
  exact e2
theorem qp_s2 (k x : Nat) : (tb b1 k x &&& mkb 51 k) + ((tb b1 k x / 4) &&& mkb 51 k) = tb b2 k x := by
  rw [tb_and b1 51 (by decide) b1_lt, tb_sh b1 51 0 4 64 (by decide) (by decide) (by decide) b1_lt qp_h2, tb_add]
  rfl
theorem qp_low (k x : Nat) : tb b2 k x % 16 ≤ 4 := by
  cases k with
  | zero => exact Nat.zero_le _
  | succ k =>
    rw [tb]
    have h := (b2_lt (x % 256) (Nat.mod_lt _ (by decide))).2
    omega
theorem qp_s4 : ∀ k x, (tb b2 k x + tb b2 k x / 16) &&& mkb 15 k = tb b4 k x
  | 0, _ => by rw [tb, tb, mkb, Nat.and_zero]
  | k + 1, x => by
    have hb := b2_lt (x % 256) (Nat.mod_lt _ (by decide))
    have hl := qp_low k (x / 256)
    have e : (b2 (x % 256) + 256 * tb b2 k (x / 256)) + (b2 (x % 256) + 256 * tb b2 k (x / 256)) / 16 = (b2 (x % 256) + b2 (x % 256) / 16 + 16 * (tb b2 k (x / 256) % 16)) + 256 * (tb b2 k (x / 256) + tb b2 k (x / 256) / 16) := by omega
    rw [tb, tb, mkb, e, qp_step (by omega) (by decide), qp_h4 _ hb.1 hb.2 _ hl, qp_s4 k]
    rfl
theorem qp_pc : ∀ k x, pc x (8 * (k + 1)) = pc (x % 256) 8 + pc (x / 256) (8 * k) := fun k x => by
  have h := pc_split x 8 (8 * k)
  have e : 8 * (k + 1) = 8 + 8 * k := by omega
  rw [e, h]
theorem qp_us (x : Int64) (k : Nat) (y : UInt64) (hy : y.toNat % 64 = k) : (x.toUInt64 >>> y).toInt64.toBitVec.toNat = x.toBitVec.toNat / 2 ^ k := by
  have e : (x.toUInt64 >>> y).toInt64.toBitVec.toNat = (x.toUInt64 >>> y).toNat := rfl
  rw [e, UInt64.toNat_shiftRight, hy, Nat.shiftRight_eq_div_pow]
  rfl
theorem qp_usN {a k : Nat} (ha : a < 18446744073709551616) (y : UInt64) (hy : y.toNat % 64 = k) : ((lN a).toUInt64 >>> y).toInt64 = lN (a / 2 ^ k) := by
  apply ql_ext
  have h : a / 2 ^ k ≤ a := Nat.div_le_self _ _
  rw [qp_us _ k y hy, ql_tn, ql_tn, Nat.mod_eq_of_lt ha, Nat.mod_eq_of_lt (by omega)]
theorem ql_add (a b : Nat) : lN a + lN b = lN (a + b) := (Int64.ofNat_add a b).symm
theorem ql_sub {a b : Nat} (h : b ≤ a) : lN a - lN b = lN (a - b) := (Int64.ofNat_sub a b h).symm
theorem qp_dv (a X : Nat) (h : a < 256) : (a + 256 * X) / 2 ^ 8 = X := by omega
theorem qp_dv2 (a b X : Nat) (h : a < 256) (h2 : b < 256) : (a + 256 * (b + 256 * X)) / 2 ^ 16 = X := by omega
theorem qp_dv4 (a b c d X : Nat) (h : a < 256) (h2 : b < 256) (h3 : c < 256) (h4 : d < 256) : (a + 256 * (b + 256 * (c + 256 * (d + 256 * X)))) / 2 ^ 32 = X := by omega
theorem qp_ad (a b X Y : Nat) : (a + 256 * X) + (b + 256 * Y) = (a + b) + 256 * (X + Y) := by omega
theorem qp_ad1 (a b X : Nat) : (a + 256 * X) + b = (a + b) + 256 * X := by omega
theorem qp_lt (a X : Nat) {m : Nat} (h : a < 256) (hx : X < m) : a + 256 * X < 256 * m := by omega
theorem qp_fin (s t X Y : Nat) (h : s + t < 128) : ((s + 256 * X) + (t + 256 * Y)) % 128 = s + t := by omega
theorem qp_L1 (x : Nat) (hx : x < 18446744073709551616) : f_J13_bitCount_95d88 (lN x) = f_J13_bitCount_95d88_34 (lN (tb b4 8 x)) := by
  have hx8 : x < 256 ^ 8 := hx
  have u1 := qp_s1 8 x hx8
  have m1 : mkb 85 8 = 6148914691236517205 := by decide +kernel
  have m2 : mkb 51 8 = 3689348814741910323 := by decide +kernel
  have m4 : mkb 15 8 = 1085102592571150095 := by decide +kernel
  rw [m1] at u1
  have u2 := qp_s2 8 x
  rw [m2] at u2
  have u4 := qp_s4 8 x
  rw [m4] at u4
  have k1 : (6148914691236517205 : Int64) = lN 6148914691236517205 := rfl
  have k2 : (3689348814741910323 : Int64) = lN 3689348814741910323 := rfl
  have k4 : (1085102592571150095 : Int64) = lN 1085102592571150095 := rfl
  have l1 : tb b1 8 x ≤ x := by rw [← u1.2]; exact Nat.sub_le _ _
  have l2 : tb b2 8 x < 2 ^ 63 := by
    rw [← u2]
    have a1 : tb b1 8 x &&& 3689348814741910323 ≤ 3689348814741910323 := Nat.and_le_right
    have a2 : (tb b1 8 x / 4) &&& 3689348814741910323 ≤ 3689348814741910323 := Nat.and_le_right
    omega
  unfold f_J13_bitCount_95d88
  rw [k1, qp_usN hx _ (k := 1) rfl, ql_and, Nat.pow_one, ql_sub u1.1, u1.2]
  unfold f_J13_bitCount_95d88_10
  rw [k2, qp_usN (by omega) _ (k := 2) rfl, ql_and, ql_and, ql_add, u2]
  unfold f_J13_bitCount_95d88_24
  rw [k4, qp_usN (by omega) _ (k := 4) rfl, ql_add, ql_and, u4]
theorem qp_127 (z : Nat) : (Int64.toInt32 (lN z)) &&& (127 : Int32) = nI (z % 128) := by
  have e0 : Int64.toInt32 (lN z) = nI z := by
    apply qz_ext
    show ((BitVec.ofNat 64 z).signExtend 32).toNat = _
    rw [BitVec.signExtend_eq_setWidth_of_le _ (by decide), BitVec.toNat_setWidth, BitVec.toNat_ofNat, qz_tn]
    omega
  rw [e0, show (127 : Int32) = nI 127 from rfl, qz_and]
  congr 1
  exact Nat.and_two_pow_sub_one_eq_mod z 7
theorem qp_e2 (n0 n1 n2 n3 n4 n5 n6 n7 : Nat) : ((n0 + n1) + 256 * ((n1 + n2) + 256 * ((n2 + n3) + 256 * ((n3 + n4) + 256 * ((n4 + n5) + 256 * ((n5 + n6) + 256 * ((n6 + n7) + 256 * (n7)))))))) + ((n2 + n3) + 256 * ((n3 + n4) + 256 * ((n4 + n5) + 256 * ((n5 + n6) + 256 * ((n6 + n7) + 256 * (n7)))))) = ((n0 + n1) + (n2 + n3)) + 256 * (((n1 + n2) + (n3 + n4)) + 256 * (((n2 + n3) + (n4 + n5)) + 256 * (((n3 + n4) + (n5 + n6)) + 256 * (((n4 + n5) + (n6 + n7)) + 256 * (((n5 + n6) + n7) + 256 * (((n6 + n7)) + 256 * ((n7)))))))) := by omega
theorem qp_e1 (n0 n1 n2 n3 n4 n5 n6 n7 : Nat) : (n0 + 256 * (n1 + 256 * (n2 + 256 * (n3 + 256 * (n4 + 256 * (n5 + 256 * (n6 + 256 * (n7)))))))) + (n1 + 256 * (n2 + 256 * (n3 + 256 * (n4 + 256 * (n5 + 256 * (n6 + 256 * (n7))))))) = (n0 + n1) + 256 * ((n1 + n2) + 256 * ((n2 + n3) + 256 * ((n3 + n4) + 256 * ((n4 + n5) + 256 * ((n5 + n6) + 256 * ((n6 + n7) + 256 * (n7))))))) := by omega
theorem qp_L2 (n0 n1 n2 n3 n4 n5 n6 n7 : Nat) (h0 : n0 ≤ 8) (h1 : n1 ≤ 8) (h2 : n2 ≤ 8) (h3 : n3 ≤ 8) (h4 : n4 ≤ 8) (h5 : n5 ≤ 8) (h6 : n6 ≤ 8) (h7 : n7 ≤ 8) : f_J13_bitCount_95d88_34 (lN (n0 + 256 * (n1 + 256 * (n2 + 256 * (n3 + 256 * (n4 + 256 * (n5 + 256 * (n6 + 256 * (n7))))))))) = some (nI (n0 + n1 + n2 + n3 + n4 + n5 + n6 + n7), ()) := by
  have a0 : n0 < 256 := by omega
  have a1 : n1 < 256 := by omega
  have a2 : n2 < 256 := by omega
  have a3 : n3 < 256 := by omega
  have a4 : n4 < 256 := by omega
  have a5 : n5 < 256 := by omega
  have a6 : n6 < 256 := by omega
  have a7 : n7 < 256 := by omega
  have p0 : (n0 + n1) < 256 := by omega
  have p1 : (n1 + n2) < 256 := by omega
  have p2 : (n2 + n3) < 256 := by omega
  have p3 : (n3 + n4) < 256 := by omega
  have p4 : (n4 + n5) < 256 := by omega
  have p5 : (n5 + n6) < 256 := by omega
  have p6 : (n6 + n7) < 256 := by omega
  have p7 : n7 < 256 := by omega
  have q0 : ((n0 + n1) + (n2 + n3)) < 256 := by omega
  have q1 : ((n1 + n2) + (n3 + n4)) < 256 := by omega
  have q2 : ((n2 + n3) + (n4 + n5)) < 256 := by omega
  have q3 : ((n3 + n4) + (n5 + n6)) < 256 := by omega
  have q4 : ((n4 + n5) + (n6 + n7)) < 256 := by omega
  have q5 : ((n5 + n6) + n7) < 256 := by omega
  have q6 : ((n6 + n7)) < 256 := by omega
  have q7 : (n7) < 256 := by omega
  have f1 : ((n0 + n1) + (n2 + n3)) + ((n4 + n5) + (n6 + n7)) < 128 := by omega
  have f2 : ((n0 + n1) + (n2 + n3)) + ((n4 + n5) + (n6 + n7)) = n0 + n1 + n2 + n3 + n4 + n5 + n6 + n7 := by omega
  have e1 := qp_e1 n0 n1 n2 n3 n4 n5 n6 n7
  have e2 := qp_e2 n0 n1 n2 n3 n4 n5 n6 n7
  unfold f_J13_bitCount_95d88_34
  rw [qp_usN (qp_lt _ _ (m := 72057594037927936) a0 (qp_lt _ _ (m := 281474976710656) a1 (qp_lt _ _ (m := 1099511627776) a2 (qp_lt _ _ (m := 4294967296) a3 (qp_lt _ _ (m := 16777216) a4 (qp_lt _ _ (m := 65536) a5 (qp_lt _ _ (m := 256) a6 a7))))))) _ (k := 8) rfl, ql_add, qp_dv _ _ a0, e1]
  unfold f_J13_bitCount_95d88_41
  rw [qp_usN (qp_lt _ _ (m := 72057594037927936) p0 (qp_lt _ _ (m := 281474976710656) p1 (qp_lt _ _ (m := 1099511627776) p2 (qp_lt _ _ (m := 4294967296) p3 (qp_lt _ _ (m := 16777216) p4 (qp_lt _ _ (m := 65536) p5 (qp_lt _ _ (m := 256) p6 p7))))))) _ (k := 16) rfl, ql_add, qp_dv2 _ _ _ p0 p1, e2]
  unfold f_J13_bitCount_95d88_48
  rw [qp_usN (qp_lt _ _ (m := 72057594037927936) q0 (qp_lt _ _ (m := 281474976710656) q1 (qp_lt _ _ (m := 1099511627776) q2 (qp_lt _ _ (m := 4294967296) q3 (qp_lt _ _ (m := 16777216) q4 (qp_lt _ _ (m := 65536) q5 (qp_lt _ _ (m := 256) q6 q7))))))) _ (k := 32) rfl, ql_add, qp_dv4 _ _ _ _ _ q0 q1 q2 q3]
  unfold f_J13_bitCount_95d88_55
  rw [qp_127, qp_fin _ _ _ _ f1, f2]
theorem qp_L (x : Nat) (hx : x < 18446744073709551616) : f_J13_bitCount_95d88 (lN x) = some (nI (pc x 64), ()) := by
  have hs : ∃ n0 n1 n2 n3 n4 n5 n6 n7 : Nat, n0 ≤ 8 ∧ n1 ≤ 8 ∧ n2 ≤ 8 ∧ n3 ≤ 8 ∧ n4 ≤ 8 ∧ n5 ≤ 8 ∧ n6 ≤ 8 ∧ n7 ≤ 8 ∧ pc x 64 = n0 + n1 + n2 + n3 + n4 + n5 + n6 + n7 ∧ tb b4 8 x = n0 + 256 * (n1 + 256 * (n2 + 256 * (n3 + 256 * (n4 + 256 * (n5 + 256 * (n6 + 256 * n7)))))) := by
    have hm : ∀ y, y % 256 < 256 := fun y => Nat.mod_lt _ (by decide)
    refine ⟨_, _, _, _, _, _, _, _, pc_le (x % 256) 8, pc_le (x / 256 % 256) 8, pc_le (x / 256 / 256 % 256) 8, pc_le (x / 256 / 256 / 256 % 256) 8, pc_le (x / 256 / 256 / 256 / 256 % 256) 8, pc_le (x / 256 / 256 / 256 / 256 / 256 % 256) 8, pc_le (x / 256 / 256 / 256 / 256 / 256 / 256 % 256) 8, pc_le (x / 256 / 256 / 256 / 256 / 256 / 256 / 256 % 256) 8, ?_, ?_⟩
    · rw [show (64 : Nat) = 8 * (7 + 1) from rfl, qp_pc, show (7 : Nat) = 6 + 1 from rfl, qp_pc, show (6 : Nat) = 5 + 1 from rfl, qp_pc, show (5 : Nat) = 4 + 1 from rfl, qp_pc, show (4 : Nat) = 3 + 1 from rfl, qp_pc, show (3 : Nat) = 2 + 1 from rfl, qp_pc, show (2 : Nat) = 1 + 1 from rfl, qp_pc, show (1 : Nat) = 0 + 1 from rfl, qp_pc]
      simp only [Nat.mul_zero, pc, Nat.zero_add]
      omega
    · simp only [tb]
      rw [b4_pc _ (hm _), b4_pc _ (hm _), b4_pc _ (hm _), b4_pc _ (hm _), b4_pc _ (hm _), b4_pc _ (hm _), b4_pc _ (hm _), b4_pc _ (hm _), Nat.mul_zero, Nat.add_zero]
  obtain ⟨n0, n1, n2, n3, n4, n5, n6, n7, h0, h1, h2, h3, h4, h5, h6, h7, hp, hw⟩ := hs
  rw [qp_L1 x hx, hw, hp]
  exact qp_L2 n0 n1 n2 n3 n4 n5 n6 n7 h0 h1 h2 h3 h4 h5 h6 h7
