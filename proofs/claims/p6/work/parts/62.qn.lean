theorem qp_usI {a k : Nat} (ha : a < 4294967296) (s : Int32) (hs : ((s.toUInt32 &&& Int32.toUInt32 31).toBitVec % 32).toNat = k) : ((nI a).toUInt32 >>> (s.toUInt32 &&& Int32.toUInt32 31)).toInt32 = nI (a / 2 ^ k) := pk_ushrN ha s k hs
theorem qp_i1 (n0 n1 n2 n3 : Nat) : (n0 + 256 * (n1 + 256 * (n2 + 256 * n3))) + (n1 + 256 * (n2 + 256 * n3)) = (n0 + n1) + 256 * ((n1 + n2) + 256 * ((n2 + n3) + 256 * n3)) := by omega
theorem qp_i2 (s t X Y : Nat) (h : s + t < 64) : ((s + 256 * X) + (t + 256 * Y)) % 64 = s + t := by omega
theorem qp_I2 (n0 n1 n2 n3 : Nat) (h0 : n0 ≤ 8) (h1 : n1 ≤ 8) (h2 : n2 ≤ 8) (h3 : n3 ≤ 8) : f_J6_bitCount_0f7a4_34 (nI (n0 + 256 * (n1 + 256 * (n2 + 256 * n3)))) = some (nI (n0 + n1 + n2 + n3), ()) := by
  unfold f_J6_bitCount_0f7a4_34
  rw [qp_usI (by omega) _ (k := 8) rfl, qz_add, qp_dv _ _ (by omega), qp_i1]
  unfold f_J6_bitCount_0f7a4_41
  rw [qp_usI (by omega) _ (k := 16) rfl, qz_add, qp_dv2 _ _ _ (by omega) (by omega)]
  unfold f_J6_bitCount_0f7a4_48
  have e : (63 : Int32) = nI 63 := rfl
  rw [e, qz_and, show (63 : Nat) = 2 ^ 6 - 1 from rfl, Nat.and_two_pow_sub_one_eq_mod, show (2 : Nat) ^ 6 = 64 from rfl, qp_i2 _ _ _ _ (by omega)]
  have e2 : n0 + n1 + (n2 + n3) = n0 + n1 + n2 + n3 := by omega
  rw [e2]
theorem qp_I (x : Nat) (hx : x < 4294967296) : f_J6_bitCount_0f7a4 (nI x) = some (nI (pc x 32), ()) := by
  have hx8 : x < 256 ^ 4 := hx
  have u1 := qp_s1 4 x hx8
  have m1 : mkb 85 4 = 1431655765 := by decide +kernel
  have m2 : mkb 51 4 = 858993459 := by decide +kernel
  have m4 : mkb 15 4 = 252645135 := by decide +kernel
  rw [m1] at u1
  have u2 := qp_s2 4 x
  rw [m2] at u2
  have u4 := qp_s4 4 x
  rw [m4] at u4
  have k1 : (1431655765 : Int32) = nI 1431655765 := rfl
  have k2 : (858993459 : Int32) = nI 858993459 := rfl
  have k4 : (252645135 : Int32) = nI 252645135 := rfl
  have l1 : tb b1 4 x ≤ x := by rw [← u1.2]; exact Nat.sub_le _ _
  have l2 : tb b2 4 x < 2 ^ 31 := by
    rw [← u2]
    have a1 : tb b1 4 x &&& 858993459 ≤ 858993459 := Nat.and_le_right
    have a2 : (tb b1 4 x / 4) &&& 858993459 ≤ 858993459 := Nat.and_le_right
    omega
  unfold f_J6_bitCount_0f7a4
  rw [k1, qp_usI hx _ (k := 1) rfl, qz_and, Nat.pow_one, qz_sub u1.1, u1.2]
  unfold f_J6_bitCount_0f7a4_10
  rw [k2, qp_usI (by omega) _ (k := 2) rfl, qz_and, qz_and, qz_add, u2]
  unfold f_J6_bitCount_0f7a4_24
  rw [k4, qp_usI (by omega) _ (k := 4) rfl, qz_add, qz_and, u4]
  have hs : ∃ n0 n1 n2 n3 : Nat, n0 ≤ 8 ∧ n1 ≤ 8 ∧ n2 ≤ 8 ∧ n3 ≤ 8 ∧ pc x 32 = n0 + n1 + n2 + n3 ∧ tb b4 4 x = n0 + 256 * (n1 + 256 * (n2 + 256 * n3)) := by
    have hm : ∀ y, y % 256 < 256 := fun y => Nat.mod_lt _ (by decide)
    refine ⟨_, _, _, _, pc_le (x % 256) 8, pc_le (x / 256 % 256) 8, pc_le (x / 256 / 256 % 256) 8, pc_le (x / 256 / 256 / 256 % 256) 8, ?_, ?_⟩
    · rw [show (32 : Nat) = 8 * (3 + 1) from rfl, qp_pc, show (3 : Nat) = 2 + 1 from rfl, qp_pc, show (2 : Nat) = 1 + 1 from rfl, qp_pc, show (1 : Nat) = 0 + 1 from rfl, qp_pc]
      simp only [Nat.mul_zero, pc, Nat.zero_add]
      omega
    · simp only [tb]
      rw [b4_pc _ (hm _), b4_pc _ (hm _), b4_pc _ (hm _), b4_pc _ (hm _), Nat.mul_zero, Nat.add_zero]
  obtain ⟨n0, n1, n2, n3, h0, h1, h2, h3, hp, hw⟩ := hs
  rw [hw, hp]
  exact qp_I2 n0 n1 n2 n3 h0 h1 h2 h3
-- the lowest set bit
theorem qn_exp : ∀ n x, x < 2 ^ n → x ≠ 0 → ∃ k q, k < n ∧ x = 2 ^ k * (2 * q + 1)
  | 0, x, h, h0 => absurd (by simpa using h) h0
  | n + 1, x, h, h0 => by
    by_cases hx : x % 2 = 1
    · exact ⟨0, x / 2, by omega, by omega⟩
    · obtain ⟨k, q, hk, e⟩ := qn_exp n (x / 2) (by rw [Nat.pow_succ] at h; omega) (by omega)
      refine ⟨k + 1, q, by omega, ?_⟩
      rw [Nat.pow_succ, Nat.mul_comm (2 ^ k) 2, Nat.mul_assoc, ← e]; omega
theorem qn_tb (k q i : Nat) : (2 ^ k * (2 * q + 1)).testBit i = if i < k then false else if i = k then true else q.testBit (i - k - 1) := by
  rw [Nat.testBit_two_pow_mul]
  by_cases h : i < k
  · rw [if_pos h]; simp; omega
  · rw [if_neg h]
    have e : decide (i ≥ k) = true := decide_eq_true (by omega)
    rw [e, Bool.true_and]
    by_cases h2 : i = k
    · rw [if_pos h2, h2, Nat.sub_self, Nat.testBit_zero]
      exact decide_eq_true (by omega)
    · rw [if_neg h2]
      have e2 : i - k = (i - k - 1) + 1 := by omega
      rw [e2, Nat.testBit_succ]
      congr 1
      omega
theorem qn_pred (k q i : Nat) : (2 ^ k * (2 * q + 1) - 1).testBit i = if i < k then true else if i = k then false else q.testBit (i - k - 1) := by
  have hp : 0 < 2 ^ k := Nat.two_pow_pos k
  have e : 2 ^ k * (2 * q + 1) - 1 = 2 ^ k * (2 * q) + (2 ^ k - 1) := by
    rw [Nat.mul_add, Nat.mul_one]; omega
  rw [e, Nat.testBit_two_pow_mul_add _ (by omega)]
  by_cases h : i < k
  · rw [if_pos h, if_pos h, Nat.testBit_two_pow_sub_one]; exact decide_eq_true h
  · rw [if_neg h, if_neg h]
    by_cases h2 : i = k
    · rw [if_pos h2, h2, Nat.sub_self, Nat.testBit_zero]
      exact decide_eq_false (by omega)
    · rw [if_neg h2]
      have e2 : i - k = (i - k - 1) + 1 := by omega
      rw [e2, Nat.testBit_succ]
      congr 1
      omega
theorem qn_mask (k q : Nat) : bdf (2 ^ k * (2 * q + 1) - 1) (2 ^ k * (2 * q + 1)) = 2 ^ k - 1 := by
  apply Nat.eq_of_testBit_eq
  intro i
  rw [bdf_tb, qn_tb, qn_pred, Nat.testBit_two_pow_sub_one]
  by_cases h : i < k
  · rw [if_pos h, if_pos h]; simp [h]
  · rw [if_neg h, if_neg h]
    by_cases h2 : i = k
    · rw [if_pos h2, if_pos h2]; simp [h]
    · rw [if_neg h2, if_neg h2]; simp [h]
theorem qn_tab : ∀ k, k < 32 → f_J6_numberOfTrailingZeros_0f7a4_8 (nI (2 ^ k - 1)) = some (nI k, ()) := by decide +kernel
theorem qn_I {k q : Nat} (hk : k < 32) (hx : 2 ^ k * (2 * q + 1) < 4294967296) : f_J6_numberOfTrailingZeros_0f7a4 (nI (2 ^ k * (2 * q + 1))) = some (nI k, ()) := by
  have h1 : 1 ≤ 2 ^ k * (2 * q + 1) := Nat.mul_pos (Nat.two_pow_pos k) (by omega)
  unfold f_J6_numberOfTrailingZeros_0f7a4
  have e : ((nI (2 ^ k * (2 * q + 1)) ^^^ (-1 : Int32)) &&& (nI (2 ^ k * (2 * q + 1)) - (1 : Int32))) = nI (2 ^ k - 1) := by
    rw [qz_i1, qz_m1, qz_sub h1, Int32.and_comm, qz_andn, qn_mask]
  rw [e]
  exact qn_tab k hk
theorem qn_low (a : Nat) : Int64.toInt32 (lN a) = nI a := by
  apply qz_ext
  show ((BitVec.ofNat 64 a).signExtend 32).toNat = _
  rw [BitVec.signExtend_eq_setWidth_of_le _ (by decide), BitVec.toNat_setWidth, BitVec.toNat_ofNat, qz_tn]
  omega
theorem qn_big (a : Nat) : nI a = nI (a % 4294967296) := by
  apply qz_ext; rw [qz_tn, qz_tn]; omega
theorem qn_z : f_J13_numberOfTrailingZeros_95d88 (lN 0) = some (nI 64, ()) := by decide +kernel
theorem qn_L {k q : Nat} (hk : k < 64) (hx : 2 ^ k * (2 * q + 1) < 18446744073709551616) : f_J13_numberOfTrailingZeros_95d88 (lN (2 ^ k * (2 * q + 1))) = some (nI k, ()) := by
  unfold f_J13_numberOfTrailingZeros_95d88
  rw [qn_low]
  by_cases h : k < 32
  · -- the low half isn't 0
    have hm : 2 ^ k * (2 * q + 1) % 4294967296 = 2 ^ k * (2 * (q % 2 ^ (31 - k)) + 1) := by
      have e1 : (4294967296 : Nat) = 2 ^ k * (2 * 2 ^ (31 - k)) := by
        rw [← Nat.pow_succ', ← Nat.pow_add]
        have : k + (31 - k + 1) = 32 := by omega
        rw [this]
      rw [e1, Nat.mul_mod_mul_left]
      congr 1
      rw [Nat.add_mod, Nat.mul_mod_mul_left]
      have hp : 0 < 2 ^ (31 - k) := Nat.two_pow_pos _
      have h1 : 1 % (2 * 2 ^ (31 - k)) = 1 := Nat.mod_eq_of_lt (by omega)
      rw [h1, Nat.mod_eq_of_lt]
      have h2 : q % 2 ^ (31 - k) < 2 ^ (31 - k) := Nat.mod_lt _ hp
      omega
    rw [qn_big (2 ^ k * (2 * q + 1)), hm]
    have hlt : 2 ^ k * (2 * (q % 2 ^ (31 - k)) + 1) < 4294967296 := by rw [← hm]; exact Nat.mod_lt _ (by decide)
    have hpos : 0 < 2 ^ k * (2 * (q % 2 ^ (31 - k)) + 1) := Nat.mul_pos (Nat.two_pow_pos k) (by omega)
    unfold f_J13_numberOfTrailingZeros_95d88_3
    have hne : ¬ nI (2 ^ k * (2 * (q % 2 ^ (31 - k)) + 1)) = 0 := by
      intro c
      have c2 := congrArg (fun z : Int32 => z.toBitVec.toNat) c
      simp only [qz_tn] at c2
      rw [Nat.mod_eq_of_lt hlt] at c2
      have : (0 : Int32).toBitVec.toNat = 0 := rfl
      omega
    rw [if_neg hne, qn_I h hlt]
    rfl
  · have e0 : ∃ j, k = 32 + j := ⟨k - 32, by omega⟩
    obtain ⟨j, rfl⟩ := e0
    have e1 : 2 ^ (32 + j) * (2 * q + 1) = 4294967296 * (2 ^ j * (2 * q + 1)) := by rw [Nat.pow_add, Nat.mul_assoc]
    have hz : nI (2 ^ (32 + j) * (2 * q + 1)) = 0 := by
      rw [qn_big, e1, Nat.mul_mod_right]; rfl
    unfold f_J13_numberOfTrailingZeros_95d88_3
    have hx2 : 2 ^ j * (2 * q + 1) < 4294967296 := by rw [e1] at hx; omega
    rw [if_pos hz, qp_usN hx _ (k := 32) rfl, e1, show (2 : Nat) ^ 32 = 4294967296 from rfl, Nat.mul_div_cancel_left _ (by decide), qn_low, qn_I (by omega) hx2]
    show some (((32 : Int32) + nI j, ())) = _
    rw [show (32 : Int32) = nI 32 from rfl, qz_add]
/-- the row that comes next: the lowest set bit, or none -/
theorem qn_row {x : Nat} (hx : x < 2 ^ 60) (h0 : x ≠ 0) : ∃ r, r < 60 ∧ f_X1_lowestRow (lN x) = some (nI r, ()) ∧ x.testBit r = true ∧ ∀ i, i < r → x.testBit i = false := by
  obtain ⟨k, q, hk, e⟩ := qn_exp 60 x hx h0
  refine ⟨k, hk, ?_, ?_, ?_⟩
  · unfold f_X1_lowestRow
    rw [e, qn_L (by omega) (by rw [← e]; exact Nat.lt_trans hx (by decide))]
    show (if (60 : Int32) ≤ nI k then _ else _) = _
    rw [qz_i60, if_neg (by rw [qz_le (by omega) (by omega)]; omega)]
    rfl
  · rw [e, qn_tb, if_neg (by omega), if_pos rfl]
  · intro i hi
    rw [e, qn_tb, if_pos hi]
theorem qn_none : f_X1_lowestRow (lN 0) = some (-1, ()) := by
  unfold f_X1_lowestRow
  rw [qn_z]
  rfl
