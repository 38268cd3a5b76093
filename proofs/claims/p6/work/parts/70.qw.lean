-- the reference's search goes the steps of the class's
theorem lvI_eq {a l : Nat} (ha : a < 2147483648) (hl : l < 2147483647) : lvI a = nI l ↔ a = l + 1 := by
  cases a with
  | zero => exact ⟨fun h => by
      have h2 := congrArg Int32.toInt h
      rw [nI_toInt (by omega)] at h2
      have : (lvI 0).toInt = -1 := by decide
      omega, fun h => by omega⟩
  | succ a => rw [lvI, qz_eq (by omega) (by omega)]; exact ⟨fun h => by omega, fun h => by omega⟩
theorem qw_112 {y1 y2 y4 : Int32} {R l : Nat} {w1 w2 w3 w4 : Nat → Int32} {K : Int32 → Int32 → Int32 → Int32 → (Nat → Int32) → (Nat → Int32) → (Nat → Int32) → (Nat → Int32) → (Nat → Int32) → (Nat → Int32) → (Nat → Int32) → (Nat → Int64) → Int32 → Int32 → Option (Int32 × Int32 × Int32 × Int32 × (Nat → Int32) × (Nat → Int32) × (Nat → Int32) × (Nat → Int32) × (Nat → Int32) × (Nat → Int32) × (Nat → Int32) × (Nat → Int64))}
    {vno vfo vsp x2 x3 : Int32} {vcc vic vcm vnx vcn vco : Nat → Int32} {vw : Nat → Int64} {ba : Nat → Nat} (hR : R ≤ 60) (hba : ∀ q, q < 60 → ba q ≤ 61) (hl : l < 61) : ∀ m k g, k + m = R → m < g →
    f_X5_search_112 y1 y2 (nI R) y4 w1 w2 w3 w4 K g (nI l) vno vfo vsp vcc vic vcm vnx (aV (mix (fun q => decide (ba q = l + 1)) ba (fun _ => 0) k)) vcn vco vw x2 x3 (nI k)
      = f_X5_search_112 y1 y2 (nI R) y4 w1 w2 w3 w4 K 1 (nI l) vno vfo vsp vcc vic vcm vnx (aV (mix (fun q => decide (ba q = l + 1)) ba (fun _ => 0) R)) vcn vco vw x2 x3 (nI R) := by
  intro m
  induction m with
  | zero =>
    intro k g hk hg
    obtain ⟨q, rfl, hq⟩ := qt_fuel hg
    have e : k = R := by omega
    subst e
    simp only [f_X5_search_112]
    rw [if_pos (Int32.le_refl _), if_pos (Int32.le_refl _)]
  | succ m ih =>
    intro k g hk hg
    obtain ⟨q, rfl, hq⟩ := qt_fuel hg
    have hstep := ih (k + 1) q (by omega) (by omega)
    have hb := hba k (by omega)
    rw [← hstep]
    conv => lhs; unfold f_X5_search_112
    simp only [f_X5_search_152]
    simp (disch := omega) only [qz_i0, qz_i1, qz_i2, qz_i3, qz_i4, qz_i5, qz_i6, qz_i7, qz_i8, qz_i9, qz_i24, qz_i27, qz_i31, qz_i60, qz_i61, qz_i100, qz_i101, qz_i50000, qz_i100000, ql_i0, ql_i1, ql_i63, ql_m1, qz_m1, qz_le, qz_lt, qz_eq, qz_add, qz_mul, qz_sub, qz_an, qz_ix, qz_and, qz_or, qz_shl, qz_shr, qz_andn, ql_eq, ql_and, ql_or, ql_shl, ql_shr, ql_andn, ql_of, qz_k31, qz_k63, qz_bit, qz_b0, qz_b1, ql_b0, ql_b1, lg_0, qz_gd, Nat.one_shiftLeft, aI_ap, aL_ap, upd_aI, upd_aL, aV_ap, upd_aV, upd_aVm, mix_k, lvI_eq]
    rw [if_neg (by omega)]
    by_cases h1 : ba k = l + 1
    · rw [if_pos h1, ← mix_s (P := fun q => decide (ba q = l + 1)) (decide_eq_true h1)]
    · rw [if_neg h1, mix_n (P := fun q => decide (ba q = l + 1)) (decide_eq_false h1)]
      have e : updN (mix (fun q => decide (ba q = l + 1)) ba (fun _ => 0) k) k (ba k) = mix (fun q => decide (ba q = l + 1)) ba (fun _ => 0) k := by
        have := updN_id (mix (fun q => decide (ba q = l + 1)) ba (fun _ => 0) k) k
        rw [mix_k] at this
        exact this
      rw [e]
theorem qw_leave0 {y1 y2 y4 : Int32} {R : Nat} {w1 w2 w3 w4 : Nat → Int32} {K : Int32 → Int32 → Int32 → Int32 → (Nat → Int32) → (Nat → Int32) → (Nat → Int32) → (Nat → Int32) → (Nat → Int32) → (Nat → Int32) → (Nat → Int32) → (Nat → Int64) → Int32 → Int32 → Option (Int32 × Int32 × Int32 × Int32 × (Nat → Int32) × (Nat → Int32) × (Nat → Int32) × (Nat → Int32) × (Nat → Int32) × (Nat → Int32) × (Nat → Int32) × (Nat → Int64))}
    {vno vfo vsp x2 x3 : Int32} {vcc vic vcm vnx vcn vco : Nat → Int32} {vw : Nat → Int64} {ba : Nat → Nat} (hR : R ≤ 60) (hba : ∀ q, q < 60 → ba q ≤ 61) :
    f_X5_search_109 y1 y2 (nI R) y4 w1 w2 w3 w4 K (nI 0) vno vfo vsp vcc vic vcm vnx (aV ba) vcn vco vw x2 x3
      = K (lvI 0) vno vfo vsp vcc vic vcm vnx (aV (mix (fun q => decide (ba q = 0 + 1)) ba (fun _ => 0) R)) vcn vco vw x2 x3 := by
  have h := qw_112 (y1 := y1) (y2 := y2) (y4 := y4) (w1 := w1) (w2 := w2) (w3 := w3) (w4 := w4) (K := K) (vno := vno) (vfo := vfo) (vsp := vsp) (x2 := x2) (x3 := x3) (vcc := vcc) (vic := vic) (vcm := vcm) (vnx := vnx) (vcn := vcn) (vco := vco) (vw := vw) (l := 0) hR hba (by omega) R 0 1000000 (by omega) (by omega)
  rw [mix_0] at h
  unfold f_X5_search_109
  refine Eq.trans h ?_
  conv => lhs; unfold f_X5_search_112
  rw [if_pos (Int32.le_refl _), if_neg (by decide)]
  rfl
theorem qw_leave1 {n : Nat} {y2 y4 : Int32} {R l : Nat} {bt cl cc ic cn co : Nat → Nat} {w1 w4 : Nat → Int32} {K : Int32 → Int32 → Int32 → Int32 → (Nat → Int32) → (Nat → Int32) → (Nat → Int32) → (Nat → Int32) → (Nat → Int32) → (Nat → Int32) → (Nat → Int32) → (Nat → Int64) → Int32 → Int32 → Option (Int32 × Int32 × Int32 × Int32 × (Nat → Int32) × (Nat → Int32) × (Nat → Int32) × (Nat → Int32) × (Nat → Int32) × (Nat → Int32) × (Nat → Int32) × (Nat → Int64))}
    {vno vfo vsp x2 x3 : Int32} {vcm vnx : Nat → Int32} {vw : Nat → Int64} {ba : Nat → Nat} (hn : n ≤ 24) (hR : R ≤ 60) (hba : ∀ q, q < 60 → ba q ≤ 61) (hl : l < 60) (hr : cc l < 60) (hb : bt (cc l) < 16777216) (hc : ∀ c, c < n → (bt (cc l)).testBit c = true → 1 ≤ cn c) :
    f_X5_search_109 (nI n) y2 (nI R) y4 w1 (aI bt) (aI cl) w4 K (nI (l + 1)) vno vfo vsp (aI cc) (aI ic) vcm vnx (aV ba) (aI cn) (aI co) vw x2 x3
      = K (nI l) vno vfo vsp (aI cc) (aI (updN ic (cc l) 0)) vcm vnx (aV (updN (mix (fun q => decide (ba q = l + 1 + 1)) ba (fun _ => 0) R) (cc l) (l + 1))) (aI (mix (bt (cc l)).testBit cn (fun c => cn c - 1) n)) (aI co) vw x2 x3 := by
  have h := qw_112 (y1 := nI n) (y2 := y2) (y4 := y4) (w1 := w1) (w2 := aI bt) (w3 := aI cl) (w4 := w4) (K := K) (vno := vno) (vfo := vfo) (vsp := vsp) (x2 := x2) (x3 := x3) (vcc := aI cc) (vic := aI ic) (vcm := vcm) (vnx := vnx) (vcn := aI cn) (vco := aI co) (vw := vw) (l := l + 1) hR hba (by omega) R 0 1000000 (by omega) (by omega)
  rw [mix_0] at h
  unfold f_X5_search_109
  refine Eq.trans h ?_
  conv => lhs; unfold f_X5_search_112
  rw [if_pos (Int32.le_refl _)]
  simp (disch := omega) only [qz_i0, qz_i1, qz_i2, qz_i3, qz_i4, qz_i5, qz_i6, qz_i7, qz_i8, qz_i9, qz_i24, qz_i27, qz_i31, qz_i60, qz_i61, qz_i100, qz_i101, qz_i50000, qz_i100000, ql_i0, ql_i1, ql_i63, ql_m1, qz_m1, qz_le, qz_lt, qz_eq, qz_add, qz_mul, qz_sub, qz_an, qz_ix, qz_and, qz_or, qz_shl, qz_shr, qz_andn, ql_eq, ql_and, ql_or, ql_shl, ql_shr, ql_andn, ql_of, qz_k31, qz_k63, qz_bit, qz_b0, qz_b1, ql_b0, ql_b1, lg_0, qz_gd, Nat.one_shiftLeft, aI_ap, aL_ap, upd_aI, upd_aL, aV_ap, upd_aV, upd_aVm, Nat.add_sub_cancel]
  rw [if_pos (by omega), qr_off hn hb hr hc, Option.bind_some, upd_aVn]
theorem qw_scan {n nd R : Nat} {tm bt cl ic cn co ba : Nat → Nat} {X F c : Nat} {y4 : Int32} {w4 : Nat → Int32} {K : Int32 → Int32 → Int32 → Int32 → (Nat → Int32) → (Nat → Int32) → (Nat → Int32) → (Nat → Int32) → (Nat → Int32) → (Nat → Int32) → (Nat → Int32) → (Nat → Int64) → Int32 → Int32 → Option (Int32 × Int32 × Int32 × Int32 × (Nat → Int32) × (Nat → Int32) × (Nat → Int32) × (Nat → Int32) × (Nat → Int32) × (Nat → Int32) × (Nat → Int32) × (Nat → Int64))}
    {vch vno vfo vsp x2 x3 : Int32} {vcc vcm vnx : Nat → Int32} {vw : Nat → Int64} (hT : TB n nd R tm bt cl) (hX : ∀ o, X.testBit o = true → o < R) (h : relC n nd R bt cl X ic cn co) (hF : relF n nd R tm bt cl ba X F) (hba : ∀ j, j < 60 → ba j ≤ 61) (hc : c < nd) : ∀ m k g, k + m = R → m < g →
    ∃ r, k ≤ r ∧ r ≤ R ∧ (∀ i, k ≤ i → i < r → (roF R bt c &&& F).testBit i = false) ∧ (r < R → (roF R bt c &&& F).testBit r = true) ∧
      f_X5_search_64 (nI n) (nI nd) (nI R) y4 (aI tm) (aI bt) (aI cl) w4 K g vch vno vfo vsp vcc (aI ic) vcm vnx (aV ba) (aI cn) (aI co) vw x2 x3 (nI c) (nI k)
      = f_X5_search_95 (nI n) (nI nd) (nI R) y4 (aI tm) (aI bt) (aI cl) w4 K vch vno vfo vsp vcc (aI ic) vcm vnx (aV ba) (aI cn) (aI co) vw x2 x3 (nI c) (nI r) := by
  have h60 := hT.2.2.2.1
  have hn := hT.2.1
  have hnd := hT.2.2.1
  intro m
  induction m with
  | zero =>
    intro k g hk hg
    obtain ⟨q, rfl, hq⟩ := qt_fuel hg
    have e : k = R := by omega
    subst e
    refine ⟨k, Nat.le_refl _, Nat.le_refl _, fun i h1 h2 => by omega, fun h => by omega, ?_⟩
    simp only [f_X5_search_64]
    rw [if_pos (Int32.le_refl _), if_neg (by rw [qz_i0, qz_lt (by omega) (by omega)]; omega)]
  | succ m ih =>
    intro k g hk hg
    obtain ⟨q, rfl, hq⟩ := qt_fuel hg
    obtain ⟨r, r1, r2, r3, r4, r5⟩ := ih (k + 1) q (by omega) (by omega)
    cases hb : (roF R bt c &&& F).testBit k
    · refine ⟨r, by omega, r2, ?_, r4, ?_⟩
      · intro i i1 i2
        by_cases e : i = k
        · rw [e]; exact hb
        · exact r3 i (by omega) i2
      · rw [← r5]
        conv => lhs; unfold f_X5_search_64
        rw [qv_isCand hT hX h hF hba (by omega) hc, Option.bind_some, hb]
        simp (disch := omega) only [qz_i0, qz_i1, qz_i2, qz_i3, qz_i4, qz_i5, qz_i6, qz_i7, qz_i8, qz_i9, qz_i24, qz_i27, qz_i31, qz_i60, qz_i61, qz_i100, qz_i101, qz_i50000, qz_i100000, ql_i0, ql_i1, ql_i63, ql_m1, qz_m1, qz_le, qz_lt, qz_eq, qz_add, qz_mul, qz_sub, qz_an, qz_ix, qz_and, qz_or, qz_shl, qz_shr, qz_andn, ql_eq, ql_and, ql_or, ql_shl, ql_shr, ql_andn, ql_of, qz_k31, qz_k63, qz_bit, qz_b0, qz_b1, ql_b0, ql_b1, lg_0, qz_gd, Nat.one_shiftLeft, aI_ap, aL_ap, upd_aI, upd_aL, aV_ap, upd_aV, upd_aVm]
        rw [if_neg (by omega), if_neg (by omega), if_pos trivial]
    · refine ⟨k, Nat.le_refl _, by omega, fun i h1 h2 => by omega, fun _ => hb, ?_⟩
      conv => lhs; unfold f_X5_search_64
      rw [qv_isCand hT hX h hF hba (by omega) hc, Option.bind_some, hb]
      simp (disch := omega) only [qz_i0, qz_i1, qz_i2, qz_i3, qz_i4, qz_i5, qz_i6, qz_i7, qz_i8, qz_i9, qz_i24, qz_i27, qz_i31, qz_i60, qz_i61, qz_i100, qz_i101, qz_i50000, qz_i100000, ql_i0, ql_i1, ql_i63, ql_m1, qz_m1, qz_le, qz_lt, qz_eq, qz_add, qz_mul, qz_sub, qz_an, qz_ix, qz_and, qz_or, qz_shl, qz_shr, qz_andn, ql_eq, ql_and, ql_or, ql_shl, ql_shr, ql_andn, ql_of, qz_k31, qz_k63, qz_bit, qz_b0, qz_b1, ql_b0, ql_b1, lg_0, qz_gd, Nat.one_shiftLeft, aI_ap, aL_ap, upd_aI, upd_aL, aV_ap, upd_aV, upd_aVm]
      rw [if_neg (by omega), if_neg (by omega), if_neg (by decide)]
