-- the methods one by one, both sides
theorem rc_roS {R : Nat} {bt : Nat → Nat} (h : bt R = 0) : roF (R + 1) bt = roF R bt := by
  funext c
  apply Nat.eq_of_testBit_eq
  intro r
  rw [roF_tb, roF_tb]
  by_cases e : r = R
  · subst e; rw [h, Nat.zero_testBit, Bool.and_false, Bool.and_false]
  · rw [show decide (r < R + 1) = decide (r < R) from decide_eq_decide.2 (by omega)]
theorem rc_csS {n nd R : Nat} {bt cl : Nat → Nat} (h : bt R = 0) : csF n nd (R + 1) bt cl = csF n nd R bt cl := by
  funext r
  apply Nat.eq_of_testBit_eq
  intro o
  rw [Bool.eq_iff_iff, csF_tb, csF_tb]
  constructor
  · rintro ⟨a1, a2, a3, d, d1, d2, d3, d4, d5⟩
    have e1 : r ≠ R := fun q => by rw [q, h, Nat.zero_testBit] at d3; cases d3
    have e2 : o ≠ R := fun q => by rw [q, h, Nat.zero_testBit] at d4; cases d4
    exact ⟨by omega, by omega, a3, d, d1, d2, d3, d4, d5⟩
  · rintro ⟨a1, a2, a3, q⟩
    exact ⟨by omega, by omega, a3, q⟩
theorem rc_modS (x k : Nat) : x % 2 ^ (k + 1) = x % 2 ^ k ||| (if x.testBit k then 2 ^ k else 0) := by
  apply Nat.eq_of_testBit_eq
  intro i
  rw [Nat.testBit_or, Nat.testBit_mod_two_pow, Nat.testBit_mod_two_pow]
  by_cases h : x.testBit k = true
  · rw [if_pos h, Nat.testBit_two_pow]
    by_cases e : k = i
    · subst e; rw [h]; simp
    · rw [show decide (i < k + 1) = decide (i < k) from decide_eq_decide.2 (by omega), decide_eq_false e, Bool.or_false]
  · have h' : x.testBit k = false := by simpa using h
    rw [if_neg h, Nat.zero_testBit, Bool.or_false]
    by_cases e : k = i
    · subst e; rw [h']; simp
    · rw [show decide (i < k + 1) = decide (i < k) from decide_eq_decide.2 (by omega)]
theorem TB_row {n nd R x : Nat} {tm bt cl : Nat → Nat} (hT : TB n nd R tm bt cl) (hR : R < 60) (hx : x < 2 ^ n) : TB n nd (R + 1) tm (updN bt R x) cl := by
  obtain ⟨a1, a2, a3, a4, a5, a6, a7, a8, a9⟩ := hT
  refine ⟨a1, a2, a3, by omega, ?_, ?_, a7, a8, a9⟩
  · intro r
    by_cases e : r = R
    · rw [e, updN_s]; exact hx
    · rw [updN_n e]; exact a5 r
  · intro r hr
    rw [updN_n (by omega)]; exact a6 r (by omega)
theorem updN_0 {bt : Nat → Nat} {R : Nat} (h : bt R = 0) : updN bt R 0 = bt := by
  have := updN_id bt R
  rwa [h] at this
/-- the class's addRowOf -/
theorem rc_addRowOf {n nd R x : Nat} {tm bt cl : Nat → Nat} (hT : TB n nd R tm bt cl) (hz : ∀ j, 24 * R ≤ j → cl j = 0) (hR : R < 60) (hx : x < 2 ^ n) :
    f_X2_addRowOf (nI n) (nI nd) (nI R) (aI bt) (aI (ccF nd cl)) (aL (roF R bt)) (aL (csF n nd R bt cl)) (nI x)
      = some (nI (R + 1), aI (updN bt R x), aI (ccF nd cl), aL (roF (R + 1) (updN bt R x)), aL (csF n nd (R + 1) (updN bt R x) cl)) := by
  have hn := hT.2.1
  have hbR : bt R = 0 := hT.2.2.2.2.2.1 R (Nat.le_refl _)
  have h24 := qt_p24 hn
  have key : ∀ m k g, k + m = n → m < g → f_X2_addRowOf_7 (nI n) (nI nd) g (nI (R + 1)) (aI (updN bt R (x % 2 ^ k))) (aI (ccF nd cl)) (aL (roF (R + 1) (updN bt R (x % 2 ^ k)))) (aL (csF n nd (R + 1) (updN bt R (x % 2 ^ k)) cl)) (nI x) (nI k)
      = some (nI (R + 1), aI (updN bt R x), aI (ccF nd cl), aL (roF (R + 1) (updN bt R x)), aL (csF n nd (R + 1) (updN bt R x) cl)) := by
    intro m
    induction m with
    | zero =>
      intro k g hk hg
      obtain ⟨p, rfl, hp⟩ := qt_fuel hg
      have e : k = n := by omega
      subst e
      simp only [f_X2_addRowOf_7]
      rw [if_pos (Int32.le_refl _), Nat.mod_eq_of_lt hx]
    | succ m ih =>
      intro k g hk hg
      obtain ⟨p, rfl, hp⟩ := qt_fuel hg
      have hstep := ih (k + 1) p (by omega) (by omega)
      have hlt : x % 2 ^ k < 2 ^ n := Nat.lt_of_lt_of_le (Nat.mod_lt _ (Nat.two_pow_pos k)) (Nat.pow_le_pow_right (by decide) (by omega))
      have hT' := TB_row hT hR hlt
      have hadd := rb_add (k := 0) (c := k) hT' (by omega) (by omega) (by omega) (by rw [Nat.add_sub_cancel, updN_s, Nat.testBit_mod_two_pow]; simp)
      have hcl0 : cl (24 * R + k) = 0 := hz _ (by omega)
      rw [Nat.add_sub_cancel, updN_s, updN_2] at hadd
      have hid : updN cl (24 * R + k) 0 = cl := updN_0 hcl0
      rw [hid] at hadd
      simp only [f_X2_addRowOf_7, f_X2_addRowOf_29]
      rw [qz_i0, hadd, Option.bind_some]
      simp (disch := omega) only [qz_i0, qz_i1, qz_i2, qz_i3, qz_i4, qz_i5, qz_i6, qz_i7, qz_i8, qz_i9, qz_i24, qz_i27, qz_i31, qz_i60, qz_i61, qz_i100, qz_i101, qz_i50000, qz_i100000, ql_i0, ql_i1, ql_i63, ql_m1, qz_m1, qz_le, qz_lt, qz_eq, qz_add, qz_mul, qz_sub, qz_an, qz_ix, qz_and, qz_or, qz_shl, qz_shr, qz_andn, ql_eq, ql_and, ql_or, ql_shl, ql_shr, ql_andn, ql_of, qz_k31, qz_k63, qz_bit, qz_b0, qz_b1, ql_b0, ql_b1, lg_0, qz_gd, Nat.one_shiftLeft, aI_ap, aL_ap, upd_aI, upd_aL, aV_ap, upd_aV, upd_aVm]
      rw [if_neg (by omega)]
      rw [rc_modS] at hstep
      by_cases h : x.testBit k = true
      · rw [if_pos h] at hstep
        rw [if_neg (by rw [h]; decide)]
        exact hstep
      · have h' : x.testBit k = false := by simpa using h
        rw [if_neg h, Nat.or_zero] at hstep
        rw [if_pos h']
        exact hstep
  have k0 := key n 0 1000000 (by omega) (by omega)
  rw [Nat.pow_zero, Nat.mod_one, updN_0 hbR, rc_roS hbR, rc_csS hbR] at k0
  unfold f_X2_addRowOf f_X2_addRow
  rw [Option.bind_some]
  simp (disch := omega) only [qz_i0, qz_i1, qz_i2, qz_i3, qz_i4, qz_i5, qz_i6, qz_i7, qz_i8, qz_i9, qz_i24, qz_i27, qz_i31, qz_i60, qz_i61, qz_i100, qz_i101, qz_i50000, qz_i100000, ql_i0, ql_i1, ql_i63, ql_m1, qz_m1, qz_le, qz_lt, qz_eq, qz_add, qz_mul, qz_sub, qz_an, qz_ix, qz_and, qz_or, qz_shl, qz_shr, qz_andn, ql_eq, ql_and, ql_or, ql_shl, ql_shr, ql_andn, ql_of, qz_k31, qz_k63, qz_bit, qz_b0, qz_b1, ql_b0, ql_b1, lg_0, qz_gd, Nat.one_shiftLeft, aI_ap, aL_ap, upd_aI, upd_aL, aV_ap, upd_aV, upd_aVm]
  exact k0
/-- the reference's addRow -/
theorem rc_addRow {R x : Nat} {kp : Int32} {bt cl : Nat → Nat} (hz : ∀ j, 24 * R ≤ j → cl j = 0) (hR : R < 60) :
    f_X5_addRow (nI R) kp (aI bt) (aI cl) (nI x) = some (nI R, nI (R + 1), nI 0, aI (updN bt R x), aI cl) := by
  have key : ∀ m k g, k + m = 24 → m < g → f_X5_addRow_12 g (nI R) kp (aI (updN bt R x)) (aI cl) (nI k) = some (nI R, nI (R + 1), nI 0, aI (updN bt R x), aI cl) := by
    intro m
    induction m with
    | zero =>
      intro k g hk hg
      obtain ⟨p, rfl, hp⟩ := qt_fuel hg
      have e : k = 24 := by omega
      subst e
      simp only [f_X5_addRow_12]
      rw [qz_i24, if_pos (Int32.le_refl _)]
      simp (disch := omega) only [qz_i0, qz_i1, qz_i2, qz_i3, qz_i4, qz_i5, qz_i6, qz_i7, qz_i8, qz_i9, qz_i24, qz_i27, qz_i31, qz_i60, qz_i61, qz_i100, qz_i101, qz_i50000, qz_i100000, ql_i0, ql_i1, ql_i63, ql_m1, qz_m1, qz_le, qz_lt, qz_eq, qz_add, qz_mul, qz_sub, qz_an, qz_ix, qz_and, qz_or, qz_shl, qz_shr, qz_andn, ql_eq, ql_and, ql_or, ql_shl, ql_shr, ql_andn, ql_of, qz_k31, qz_k63, qz_bit, qz_b0, qz_b1, ql_b0, ql_b1, lg_0, qz_gd, Nat.one_shiftLeft, aI_ap, aL_ap, upd_aI, upd_aL, aV_ap, upd_aV, upd_aVm, Nat.add_sub_cancel]
    | succ m ih =>
      intro k g hk hg
      obtain ⟨p, rfl, hp⟩ := qt_fuel hg
      have hstep := ih (k + 1) p (by omega) (by omega)
      simp only [f_X5_addRow_12]
      simp (disch := omega) only [qz_i0, qz_i1, qz_i2, qz_i3, qz_i4, qz_i5, qz_i6, qz_i7, qz_i8, qz_i9, qz_i24, qz_i27, qz_i31, qz_i60, qz_i61, qz_i100, qz_i101, qz_i50000, qz_i100000, ql_i0, ql_i1, ql_i63, ql_m1, qz_m1, qz_le, qz_lt, qz_eq, qz_add, qz_mul, qz_sub, qz_an, qz_ix, qz_and, qz_or, qz_shl, qz_shr, qz_andn, ql_eq, ql_and, ql_or, ql_shl, ql_shr, ql_andn, ql_of, qz_k31, qz_k63, qz_bit, qz_b0, qz_b1, ql_b0, ql_b1, lg_0, qz_gd, Nat.one_shiftLeft, aI_ap, aL_ap, upd_aI, upd_aL, aV_ap, upd_aV, upd_aVm, updN_0 (hz (24 * R + k) (by omega))]
      rw [if_neg (by omega)]
      exact hstep
  unfold f_X5_addRow
  simp (disch := omega) only [qz_i0, qz_i1, qz_i2, qz_i3, qz_i4, qz_i5, qz_i6, qz_i7, qz_i8, qz_i9, qz_i24, qz_i27, qz_i31, qz_i60, qz_i61, qz_i100, qz_i101, qz_i50000, qz_i100000, ql_i0, ql_i1, ql_i63, ql_m1, qz_m1, qz_le, qz_lt, qz_eq, qz_add, qz_mul, qz_sub, qz_an, qz_ix, qz_and, qz_or, qz_shl, qz_shr, qz_andn, ql_eq, ql_and, ql_or, ql_shl, ql_shr, ql_andn, ql_of, qz_k31, qz_k63, qz_bit, qz_b0, qz_b1, ql_b0, ql_b1, lg_0, qz_gd, Nat.one_shiftLeft, aI_ap, aL_ap, upd_aI, upd_aL, aV_ap, upd_aV, upd_aVm]
  exact key 24 0 1000000 (by omega) (by omega)
theorem rc_col {n : Nat} {x : Int32} (hn : n < 2147483648) : (∃ j, j < n ∧ x = nI j ∧ f_X4_requireColumn (nI n) x = some (.inl ()) ∧ f_X5_isColumn (nI n) x = some (nI 1, ())) ∨ (f_X4_requireColumn (nI n) x = some (.inr (RJx00060, ())) ∧ f_X5_isColumn (nI n) x = some (nI 0, ())) := by
  rcases pk_ix x hn with h | h | ⟨j, j1, j2⟩
  · right
    refine ⟨?_, qr_isColumn0 (Or.inl h)⟩
    unfold f_X4_requireColumn f_X4_requireColumn_15
    rw [if_pos h]
  · right
    refine ⟨?_, qr_isColumn0 (Or.inr h)⟩
    unfold f_X4_requireColumn f_X4_requireColumn_15
    by_cases h2 : x < 0
    · rw [if_pos h2]
    · rw [if_neg h2, if_neg (fun q => absurd (Int32.lt_of_lt_of_le q h) Int32.lt_irrefl)]
  · left
    refine ⟨j, j1, j2, ?_, by rw [j2]; exact qr_isColumn hn j1⟩
    subst j2
    unfold f_X4_requireColumn f_X4_requireColumn_15
    rw [if_neg (by rw [qz_i0, qz_lt (by omega) (by omega)]; omega), if_pos (by rw [qz_lt (by omega) (by omega)]; exact j1)]
theorem rc_row {n : Nat} {x : Int32} (hn : n < 2147483648) : (∃ j, j < n ∧ x = nI j ∧ f_X4_requireRow (nI n) x = some (.inl ()) ∧ f_X5_isRow (nI n) x = some (nI 1, ())) ∨ (f_X4_requireRow (nI n) x = some (.inr (RJx00060, ())) ∧ f_X5_isRow (nI n) x = some (nI 0, ())) := by
  rcases pk_ix x hn with h | h | ⟨j, j1, j2⟩
  · right
    refine ⟨?_, qr_isRow0 (Or.inl h)⟩
    unfold f_X4_requireRow f_X4_requireRow_15
    rw [if_pos h]
  · right
    refine ⟨?_, qr_isRow0 (Or.inr h)⟩
    unfold f_X4_requireRow f_X4_requireRow_15
    by_cases h2 : x < 0
    · rw [if_pos h2]
    · rw [if_neg h2, if_neg (fun q => absurd (Int32.lt_of_lt_of_le q h) Int32.lt_irrefl)]
  · left
    refine ⟨j, j1, j2, ?_, by rw [j2]; exact qr_isRow hn j1⟩
    subst j2
    unfold f_X4_requireRow f_X4_requireRow_15
    rw [if_neg (by rw [qz_i0, qz_lt (by omega) (by omega)]; omega), if_pos (by rw [qz_lt (by omega) (by omega)]; exact j1)]
