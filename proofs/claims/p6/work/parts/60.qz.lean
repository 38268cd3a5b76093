-- numbers as the machine's ints and longs: rows for rewriting
theorem qz_i0 : (0 : Int32) = nI 0 := rfl
theorem qz_i1 : (1 : Int32) = nI 1 := rfl
theorem qz_i2 : (2 : Int32) = nI 2 := rfl
theorem qz_i3 : (3 : Int32) = nI 3 := rfl
theorem qz_i4 : (4 : Int32) = nI 4 := rfl
theorem qz_i5 : (5 : Int32) = nI 5 := rfl
theorem qz_i6 : (6 : Int32) = nI 6 := rfl
theorem qz_i7 : (7 : Int32) = nI 7 := rfl
theorem qz_i8 : (8 : Int32) = nI 8 := rfl
theorem qz_i9 : (9 : Int32) = nI 9 := rfl
theorem qz_i24 : (24 : Int32) = nI 24 := rfl
theorem qz_i27 : (27 : Int32) = nI 27 := rfl
theorem qz_i31 : (31 : Int32) = nI 31 := rfl
theorem qz_i60 : (60 : Int32) = nI 60 := rfl
theorem qz_i61 : (61 : Int32) = nI 61 := rfl
theorem qz_i100 : (100 : Int32) = nI 100 := rfl
theorem qz_i101 : (101 : Int32) = nI 101 := rfl
theorem qz_i50000 : (50000 : Int32) = nI 50000 := rfl
theorem qz_i100000 : (100000 : Int32) = nI 100000 := rfl
theorem ql_i0 : (0 : Int64) = lN 0 := rfl
theorem ql_i1 : (1 : Int64) = lN 1 := rfl
theorem ql_i63 : (63 : Int64) = lN 63 := rfl
theorem qz_ix {k : Nat} (h : k < 2147483648) : Int32.toNatClampNeg (nI k) = k := Int32.toNatClampNeg_ofNat_of_lt h
theorem qz_le {a b : Nat} (ha : a < 2147483648) (hb : b < 2147483648) : nI a ≤ nI b ↔ a ≤ b := Int32.ofNat_le_iff_le ha hb
theorem qz_lt {a b : Nat} (ha : a < 2147483648) (hb : b < 2147483648) : nI a < nI b ↔ a < b := Int32.ofNat_lt_iff_lt ha hb
theorem qz_eq {a b : Nat} (ha : a < 2147483648) (hb : b < 2147483648) : nI a = nI b ↔ a = b :=
  ⟨fun h => by have h2 := congrArg Int32.toNatClampNeg h; rwa [qz_ix ha, qz_ix hb] at h2, fun h => by rw [h]⟩
theorem qz_add (a b : Nat) : nI a + nI b = nI (a + b) := (Int32.ofNat_add a b).symm
theorem qz_mul (a b : Nat) : nI a * nI b = nI (a * b) := (Int32.ofNat_mul a b).symm
theorem qz_sub {a b : Nat} (h : b ≤ a) : nI a - nI b = nI (a - b) := (Int32.ofNat_sub a b h).symm
theorem qz_an (a b : Int32) : a + -b = a - b := (Int32.sub_eq_add_neg a b).symm
theorem qz_gd {α : Type} {k n : Nat} {a : Option α} (h : k < n) : (if (k < 0 ∨ n ≤ k) then none else a) = a := if_neg (by omega)
theorem qz_tn (a : Nat) : (nI a).toBitVec.toNat = a % 4294967296 := by
  show (BitVec.ofNat 32 a).toNat = _
  rw [BitVec.toNat_ofNat]
theorem ql_tn (a : Nat) : (lN a).toBitVec.toNat = a % 18446744073709551616 := by
  show (BitVec.ofNat 64 a).toNat = _
  rw [BitVec.toNat_ofNat]
theorem qz_ext {x y : Int32} (h : x.toBitVec.toNat = y.toBitVec.toNat) : x = y := Int32.toBitVec_inj.1 (BitVec.eq_of_toNat_eq h)
theorem ql_ext {x y : Int64} (h : x.toBitVec.toNat = y.toBitVec.toNat) : x = y := Int64.toBitVec_inj.1 (BitVec.eq_of_toNat_eq h)
theorem qz_and (a b : Nat) : nI a &&& nI b = nI (a &&& b) := Int32.toBitVec_inj.1 (BitVec.ofNat_and).symm
theorem qz_or (a b : Nat) : nI a ||| nI b = nI (a ||| b) := Int32.toBitVec_inj.1 (BitVec.ofNat_or).symm
theorem ql_and (a b : Nat) : lN a &&& lN b = lN (a &&& b) := Int64.toBitVec_inj.1 (BitVec.ofNat_and).symm
theorem ql_or (a b : Nat) : lN a ||| lN b = lN (a ||| b) := Int64.toBitVec_inj.1 (BitVec.ofNat_or).symm
theorem ql_eq {a b : Nat} (ha : a < 18446744073709551616) (hb : b < 18446744073709551616) : lN a = lN b ↔ a = b :=
  ⟨fun h => by
    have h2 := congrArg (fun z : Int64 => z.toBitVec.toNat) h
    simp only [ql_tn] at h2
    rwa [Nat.mod_eq_of_lt ha, Nat.mod_eq_of_lt hb] at h2, fun h => by rw [h]⟩
theorem qz_k31 {k : Nat} (h : k < 32) : k &&& 31 = k := by
  have e : (31 : Nat) = 2 ^ 5 - 1 := rfl
  rw [e, Nat.and_two_pow_sub_one_eq_mod]; omega
theorem qz_k63 {k : Nat} (h : k < 64) : k &&& 63 = k := by
  have e : (63 : Nat) = 2 ^ 6 - 1 := rfl
  rw [e, Nat.and_two_pow_sub_one_eq_mod]; omega
theorem qz_sm : ∀ k, k < 32 → ((nI k).toBitVec.smod 32).toNat = k := by decide +kernel
theorem ql_sm : ∀ k, k < 64 → ((lN k).toBitVec.smod 64).toNat = k := by decide +kernel
theorem qz_shl {a k : Nat} (hk : k < 32) : nI a <<< nI k = nI (a <<< k) := by
  apply qz_ext
  rw [pk_shl (nI a) (nI k) k (qz_sm k hk), qz_tn, qz_tn, Nat.shiftLeft_eq]
  show a % 4294967296 * 2 ^ k % 4294967296 = _
  rw [Nat.mod_mul_mod]
theorem qz_shr {b k : Nat} (hb : b < 2147483648) (hk : k < 32) : nI b >>> nI k = nI (b >>> k) := by
  rw [pk_shrN hb (nI k) k (qz_sm k hk), Nat.shiftRight_eq_div_pow]
theorem ql_shl {a k : Nat} (hk : k < 64) : lN a <<< lN k = lN (a <<< k) := by
  apply ql_ext
  have e : (lN a <<< lN k).toBitVec = (lN a).toBitVec <<< ((lN k).toBitVec.smod 64) := rfl
  rw [e, BitVec.shiftLeft_eq', BitVec.toNat_shiftLeft, ql_sm k hk, ql_tn, ql_tn, Nat.shiftLeft_eq, Nat.shiftLeft_eq]
  show a % 18446744073709551616 * 2 ^ k % 18446744073709551616 = _
  rw [Nat.mod_mul_mod]
theorem ql_shr {b k : Nat} (hb : b < 9223372036854775808) (hk : k < 64) : lN b >>> lN k = lN (b >>> k) := by
  apply ql_ext
  have e : (lN b >>> lN k).toBitVec = (lN b).toBitVec.sshiftRight ((lN k).toBitVec.smod 64).toNat := rfl
  have hm : (lN b).toBitVec.msb = false := by
    rw [BitVec.msb_eq_false_iff_two_mul_lt, ql_tn]; omega
  have hle : b >>> k ≤ b := Nat.shiftRight_le b k
  rw [e, ql_sm k hk, BitVec.sshiftRight_eq_of_msb_false hm, BitVec.toNat_ushiftRight, ql_tn, ql_tn, Nat.mod_eq_of_lt (by omega), Nat.mod_eq_of_lt (by omega)]
theorem ql_of {k : Nat} (h : k < 2147483648) : Int32.toInt64 (nI k) = lN k := Int32.toInt64_ofNat' (by show (k : Int) ≤ 2147483647; omega)
/-- the bits of one number that aren't the other's -/
def bdf (a b : Nat) : Nat := a ^^^ (a &&& b)
theorem bdf_tb (a b i : Nat) : (bdf a b).testBit i = (a.testBit i && !b.testBit i) := by
  unfold bdf
  rw [Nat.testBit_xor, Nat.testBit_and]
  cases a.testBit i <;> cases b.testBit i <;> rfl
theorem bdf_le (a b : Nat) : bdf a b ≤ a := Nat.le_of_testBit (fun i h => by rw [bdf_tb] at h; revert h; cases a.testBit i <;> simp)
theorem qz_m1 (x : Int32) : x ^^^ -nI 1 = ~~~x := Int32.toBitVec_inj.1 (by
  show x.toBitVec ^^^ BitVec.allOnes 32 = ~~~x.toBitVec
  exact BitVec.xor_allOnes)
theorem ql_m1 (x : Int64) : x ^^^ -lN 1 = ~~~x := Int64.toBitVec_inj.1 (by
  show x.toBitVec ^^^ BitVec.allOnes 64 = ~~~x.toBitVec
  exact BitVec.xor_allOnes)
theorem qz_andn (a b : Nat) : nI a &&& ~~~(nI b) = nI (bdf a b) := by
  apply Int32.toBitVec_inj.1
  show BitVec.ofNat 32 a &&& ~~~(BitVec.ofNat 32 b) = BitVec.ofNat 32 (bdf a b)
  apply BitVec.eq_of_getLsbD_eq
  intro i hi
  rw [BitVec.getLsbD_and, BitVec.getLsbD_not, BitVec.getLsbD_ofNat, BitVec.getLsbD_ofNat, BitVec.getLsbD_ofNat, bdf_tb]
  simp [hi]
theorem ql_andn (a b : Nat) : lN a &&& ~~~(lN b) = lN (bdf a b) := by
  apply Int64.toBitVec_inj.1
  show BitVec.ofNat 64 a &&& ~~~(BitVec.ofNat 64 b) = BitVec.ofNat 64 (bdf a b)
  apply BitVec.eq_of_getLsbD_eq
  intro i hi
  rw [BitVec.getLsbD_and, BitVec.getLsbD_not, BitVec.getLsbD_ofNat, BitVec.getLsbD_ofNat, BitVec.getLsbD_ofNat, bdf_tb]
  simp [hi]
theorem qz_bit (b k : Nat) : (b >>> k) &&& 1 = (b.testBit k).toNat := by
  rw [Nat.and_one_is_mod, Nat.toNat_testBit, Nat.shiftRight_eq_div_pow]
theorem qz_b0 (t : Bool) : nI t.toNat = nI 0 ↔ t = false := by cases t <;> decide
theorem qz_b1 (t : Bool) : nI t.toNat = nI 1 ↔ t = true := by cases t <;> decide
theorem ql_b0 (t : Bool) : lN t.toNat = lN 0 ↔ t = false := by cases t <;> decide
theorem ql_b1 (t : Bool) : lN t.toNat = lN 1 ↔ t = true := by cases t <;> decide
theorem lg_0 (x y : Int64) : lg_cmp x y = nI 0 ↔ x = y := by
  unfold lg_cmp
  by_cases h : x > y
  · rw [if_pos h]
    constructor
    · intro q; exact absurd q (by decide)
    · intro q; subst q; exact absurd h (by simp)
  · rw [if_neg h]
    by_cases h2 : x = y
    · rw [if_pos h2]; exact ⟨fun _ => h2, fun _ => rfl⟩
    · rw [if_neg h2]; exact ⟨fun q => absurd q (by decide), fun q => absurd q h2⟩
-- sets as the bits of a number
def bs (P : Nat → Bool) : Nat → Nat
  | 0 => 0
  | n + 1 => bs P n ||| (if P n then 2 ^ n else 0)
theorem bs_tb (P : Nat → Bool) (n i : Nat) : (bs P n).testBit i = (decide (i < n) && P i) := by
  induction n with
  | zero => simp [bs]
  | succ n ih =>
    rw [bs, Nat.testBit_or, ih]
    by_cases hp : P n
    · rw [if_pos hp, Nat.testBit_two_pow]
      by_cases h : n = i
      · subst h; simp [hp]
      · have e : decide (i < n + 1) = decide (i < n) := decide_eq_decide.2 (by omega)
        simp [h, e]
    · rw [if_neg hp, Nat.zero_testBit]
      by_cases h : n = i
      · subst h; simp [hp]
      · have e : decide (i < n + 1) = decide (i < n) := decide_eq_decide.2 (by omega)
        simp [e]
theorem bs_lt (P : Nat → Bool) (n : Nat) : bs P n < 2 ^ n := Nat.lt_pow_two_of_testBit _ (fun i h => by rw [bs_tb]; simp; intro q; omega)
/-- how many bits below a place -/
def pc (x : Nat) : Nat → Nat
  | 0 => 0
  | n + 1 => pc x n + (x.testBit n).toNat
theorem pc_le (x n : Nat) : pc x n ≤ n := by
  induction n with
  | zero => exact Nat.le_refl 0
  | succ n ih => rw [pc]; have h : (x.testBit n).toNat ≤ 1 := Bool.toNat_le _; omega
theorem pc_congr {x y n : Nat} (h : ∀ i, i < n → x.testBit i = y.testBit i) : pc x n = pc y n := by
  induction n with
  | zero => rfl
  | succ n ih => rw [pc, pc, ih (fun i hi => h i (by omega)), h n (by omega)]
theorem pc_split (x a m : Nat) : pc x (a + m) = pc (x % 2 ^ a) a + pc (x / 2 ^ a) m := by
  induction m with
  | zero =>
    show pc x a = pc (x % 2 ^ a) a + 0
    rw [Nat.add_zero]
    exact pc_congr (fun i hi => by rw [Nat.testBit_mod_two_pow]; simp [hi])
  | succ m ih =>
    show pc x (a + m) + (x.testBit (a + m)).toNat = _
    rw [ih, pc, Nat.testBit_div_two_pow, Nat.add_assoc, Nat.add_comm m a]
-- arrays of numbers
def updN (f : Nat → Nat) (k x : Nat) : Nat → Nat := fun j => if j = k then x else f j
theorem updN_s (f : Nat → Nat) (k x : Nat) : updN f k x k = x := if_pos rfl
theorem updN_n {f : Nat → Nat} {k x j : Nat} (h : j ≠ k) : updN f k x j = f j := if_neg h
theorem updN_2 (f : Nat → Nat) (k x y : Nat) : updN (updN f k x) k y = updN f k y := by
  funext j; unfold updN; by_cases h : j = k
  · rw [if_pos h, if_pos h]
  · rw [if_neg h, if_neg h, if_neg h]
def aI (a : Nat → Nat) : Nat → Int32 := fun j => nI (a j)
def aL (a : Nat → Nat) : Nat → Int64 := fun j => lN (a j)
theorem aI_ap (a : Nat → Nat) (j : Nat) : aI a j = nI (a j) := rfl
theorem aL_ap (a : Nat → Nat) (j : Nat) : aL a j = lN (a j) := rfl
theorem upd_aI (a : Nat → Nat) (k x : Nat) : upd (aI a) k (nI x) = aI (updN a k x) := by
  funext j; unfold upd aI updN; by_cases h : j = k
  · rw [if_pos h, if_pos h]
  · rw [if_neg h, if_neg h]
theorem upd_aL (a : Nat → Nat) (k x : Nat) : vp_updL (aL a) k (lN x) = aL (updN a k x) := by
  funext j; unfold vp_updL aL updN; by_cases h : j = k
  · rw [if_pos h, if_pos h]
  · rw [if_neg h, if_neg h]
theorem aI_all (v : Nat → Int32) : ∃ a : Nat → Nat, v = aI a := ⟨fun j => (v j).toBitVec.toNat, by
  funext j; apply qz_ext; rw [aI_ap, qz_tn]; exact (Nat.mod_eq_of_lt (v j).toBitVec.isLt).symm⟩
theorem aL_all (v : Nat → Int64) : ∃ a : Nat → Nat, v = aL a := ⟨fun j => (v j).toBitVec.toNat, by
  funext j; apply ql_ext; rw [aL_ap, ql_tn]; exact (Nat.mod_eq_of_lt (v j).toBitVec.isLt).symm⟩
-- numbers and -1, by one more
def lvI : Nat → Int32
  | 0 => -1
  | l + 1 => nI l
def aV (a : Nat → Nat) : Nat → Int32 := fun j => lvI (a j)
theorem aV_ap (a : Nat → Nat) (j : Nat) : aV a j = lvI (a j) := rfl
theorem upd_aV (a : Nat → Nat) (k x : Nat) : upd (aV a) k (lvI x) = aV (updN a k x) := by
  funext j; unfold upd aV updN; by_cases h : j = k
  · rw [if_pos h, if_pos h]
  · rw [if_neg h, if_neg h]
theorem upd_aVm (a : Nat → Nat) (k : Nat) : upd (aV a) k (-nI 1) = aV (updN a k 0) := upd_aV a k 0
theorem upd_aVn (a : Nat → Nat) (k x : Nat) : upd (aV a) k (nI x) = aV (updN a k (x + 1)) := upd_aV a k (x + 1)
theorem aV_all (v : Nat → Int32) : ∃ a : Nat → Nat, v = aV a := ⟨fun j => (v j).toBitVec.toNat + 1, by
  funext j; apply qz_ext; rw [aV_ap, lvI, qz_tn]; exact (Nat.mod_eq_of_lt (v j).toBitVec.isLt).symm⟩
