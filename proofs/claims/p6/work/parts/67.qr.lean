-- the reference: its small methods over numbers
theorem qr_vb0 : vp_nar .boolean (nI 0) = nI 0 := by decide
theorem qr_vb1 : vp_nar .boolean (nI 1) = nI 1 := by decide
theorem qr_b01 (t : Bool) : ¬ ¬ (nI t.toNat = nI 0 ∨ nI t.toNat = nI 1) := by cases t <;> decide
theorem qr_t1 : nI 1 = nI (true : Bool).toNat := rfl
theorem qr_t0 : nI 0 = nI (false : Bool).toNat := rfl
theorem updN_id (f : Nat → Nat) (k : Nat) : updN f k (f k) = f := by
  funext j; unfold updN; by_cases h : j = k
  · rw [if_pos h, h]
  · rw [if_neg h]
def mix (P : Nat → Bool) (f g : Nat → Nat) (k : Nat) : Nat → Nat := fun c => if c < k ∧ P c = true then g c else f c
theorem mix_0 (P : Nat → Bool) (f g : Nat → Nat) : mix P f g 0 = f := by funext c; exact if_neg (fun h => by omega)
theorem mix_k (P : Nat → Bool) (f g : Nat → Nat) (k : Nat) : mix P f g k k = f k := if_neg (fun h => by omega)
theorem mix_s {P : Nat → Bool} {f g : Nat → Nat} {k : Nat} (h : P k = true) : updN (mix P f g k) k (g k) = mix P f g (k + 1) := by
  funext c; unfold updN mix
  by_cases e : c = k
  · subst e; rw [if_pos rfl, if_pos ⟨by omega, h⟩]
  · rw [if_neg e]
    by_cases h2 : c < k ∧ P c = true
    · rw [if_pos h2, if_pos ⟨by omega, h2.2⟩]
    · rw [if_neg h2, if_neg (fun h3 => h2 ⟨by omega, h3.2⟩)]
theorem mix_n {P : Nat → Bool} {f g : Nat → Nat} {k : Nat} (h : P k = false) : mix P f g (k + 1) = mix P f g k := by
  funext c; unfold mix
  by_cases h2 : c < k ∧ P c = true
  · rw [if_pos h2, if_pos ⟨by omega, h2.2⟩]
  · rw [if_neg h2, if_neg (fun h3 => by
      by_cases e : c = k
      · subst e; rw [h] at h3; cases h3.2
      · exact h2 ⟨by omega, h3.2⟩)]
theorem qr_has {bt : Nat → Nat} {r c : Nat} (hb : bt r < 16777216) (hr : r < 60) (hc : c < 24) : f_X5_has (aI bt) (nI r) (nI c) = some (nI ((bt r).testBit c).toNat, ()) := by
  unfold f_X5_has f_X5_has_19
  simp (disch := omega) only [qz_i0, qz_i1, qz_i2, qz_i3, qz_i4, qz_i5, qz_i6, qz_i7, qz_i8, qz_i9, qz_i24, qz_i27, qz_i31, qz_i60, qz_i61, qz_i100, qz_i101, qz_i50000, qz_i100000, ql_i0, ql_i1, ql_i63, ql_m1, qz_m1, qz_le, qz_lt, qz_eq, qz_add, qz_mul, qz_sub, qz_an, qz_ix, qz_and, qz_or, qz_shl, qz_shr, qz_andn, ql_eq, ql_and, ql_or, ql_shl, ql_shr, ql_andn, ql_of, qz_k31, qz_k63, qz_bit, qz_b0, qz_b1, ql_b0, ql_b1, lg_0, qz_gd, Nat.one_shiftLeft, aI_ap, aL_ap, upd_aI, upd_aL, aV_ap, upd_aV, upd_aVm]
  cases h : (bt r).testBit c
  · rw [if_neg (by decide), if_neg (by decide)]; rfl
  · rw [if_pos rfl, if_neg (by decide)]; rfl
theorem qr_isColumn {n c : Nat} (hn : n < 2147483648) (hc : c < n) : f_X5_isColumn (nI n) (nI c) = some (nI 1, ()) := by
  unfold f_X5_isColumn f_X5_isColumn_17
  simp (disch := omega) only [qz_i0, qz_i1, qz_i2, qz_i3, qz_i4, qz_i5, qz_i6, qz_i7, qz_i8, qz_i9, qz_i24, qz_i27, qz_i31, qz_i60, qz_i61, qz_i100, qz_i101, qz_i50000, qz_i100000, ql_i0, ql_i1, ql_i63, ql_m1, qz_m1, qz_le, qz_lt, qz_eq, qz_add, qz_mul, qz_sub, qz_an, qz_ix, qz_and, qz_or, qz_shl, qz_shr, qz_andn, ql_eq, ql_and, ql_or, ql_shl, ql_shr, ql_andn, ql_of, qz_k31, qz_k63, qz_bit, qz_b0, qz_b1, ql_b0, ql_b1, lg_0, qz_gd, Nat.one_shiftLeft, aI_ap, aL_ap, upd_aI, upd_aL, aV_ap, upd_aV, upd_aVm]
  rw [if_neg (by omega), if_neg (by omega), if_neg (by decide)]
theorem qr_isColumn0 {n : Nat} {x : Int32} (h : x < 0 ∨ nI n ≤ x) : f_X5_isColumn (nI n) x = some (nI 0, ()) := by
  unfold f_X5_isColumn f_X5_isColumn_16 f_X5_isColumn_17
  by_cases h1 : x < 0
  · rw [if_pos h1, if_neg (by decide)]; rfl
  · rw [if_neg h1, if_pos (h.resolve_left h1), if_neg (by decide)]; rfl
theorem qr_isRow {n c : Nat} (hn : n < 2147483648) (hc : c < n) : f_X5_isRow (nI n) (nI c) = some (nI 1, ()) := by
  unfold f_X5_isRow f_X5_isRow_17
  simp (disch := omega) only [qz_i0, qz_i1, qz_i2, qz_i3, qz_i4, qz_i5, qz_i6, qz_i7, qz_i8, qz_i9, qz_i24, qz_i27, qz_i31, qz_i60, qz_i61, qz_i100, qz_i101, qz_i50000, qz_i100000, ql_i0, ql_i1, ql_i63, ql_m1, qz_m1, qz_le, qz_lt, qz_eq, qz_add, qz_mul, qz_sub, qz_an, qz_ix, qz_and, qz_or, qz_shl, qz_shr, qz_andn, ql_eq, ql_and, ql_or, ql_shl, ql_shr, ql_andn, ql_of, qz_k31, qz_k63, qz_bit, qz_b0, qz_b1, ql_b0, ql_b1, lg_0, qz_gd, Nat.one_shiftLeft, aI_ap, aL_ap, upd_aI, upd_aL, aV_ap, upd_aV, upd_aVm]
  rw [if_neg (by omega), if_neg (by omega), if_neg (by decide)]
theorem qr_isRow0 {n : Nat} {x : Int32} (h : x < 0 ∨ nI n ≤ x) : f_X5_isRow (nI n) x = some (nI 0, ()) := by
  unfold f_X5_isRow f_X5_isRow_16 f_X5_isRow_17
  by_cases h1 : x < 0
  · rw [if_pos h1, if_neg (by decide)]; rfl
  · rw [if_neg h1, if_pos (h.resolve_left h1), if_neg (by decide)]; rfl
theorem qr_throws0 {th x1 : Int32} : f_X5_throwsIf th x1 (nI 0) = some (nI 0, nI 0) := by
  unfold f_X5_throwsIf f_X5_throwsIf_10
  rw [if_pos (show nI 0 = 0 from rfl), if_neg (by decide)]; rfl
theorem qr_throws1 {th x1 : Int32} : f_X5_throwsIf th x1 (nI 1) = some (nI 1, x1) := by
  unfold f_X5_throwsIf f_X5_throwsIf_10
  rw [if_neg (by decide), if_neg (by decide)]
theorem qr_countOf_l {x : Nat} (hx : x < 2147483648) : ∀ m k g, k + m = 24 → m < g → f_X5_countOf_4 g (nI x) (nI (pc x k)) (nI k) = some (nI (pc x 24), ()) := by
  intro m
  induction m with
  | zero =>
    intro k g hk hg
    obtain ⟨q, rfl, hq⟩ := qt_fuel hg
    have e : k = 24 := by omega
    subst e
    simp only [f_X5_countOf_4]
    rw [qz_i24, if_pos (Int32.le_refl _)]
  | succ m ih =>
    intro k g hk hg
    obtain ⟨q, rfl, hq⟩ := qt_fuel hg
    have hstep := ih (k + 1) q (by omega) (by omega)
    rw [pc] at hstep
    simp only [f_X5_countOf_4]
    simp (disch := omega) only [qz_i0, qz_i1, qz_i2, qz_i3, qz_i4, qz_i5, qz_i6, qz_i7, qz_i8, qz_i9, qz_i24, qz_i27, qz_i31, qz_i60, qz_i61, qz_i100, qz_i101, qz_i50000, qz_i100000, ql_i0, ql_i1, ql_i63, ql_m1, qz_m1, qz_le, qz_lt, qz_eq, qz_add, qz_mul, qz_sub, qz_an, qz_ix, qz_and, qz_or, qz_shl, qz_shr, qz_andn, ql_eq, ql_and, ql_or, ql_shl, ql_shr, ql_andn, ql_of, qz_k31, qz_k63, qz_bit, qz_b0, qz_b1, ql_b0, ql_b1, lg_0, qz_gd, Nat.one_shiftLeft, aI_ap, aL_ap, upd_aI, upd_aL, aV_ap, upd_aV, upd_aVm]
    rw [if_neg (by omega)]
    exact hstep
theorem qr_countOf {x : Nat} (hx : x < 2147483648) : f_X5_countOf (nI x) = some (nI (pc x 24), ()) := qr_countOf_l hx 24 0 1000000 (by omega) (by omega)
theorem qr_on_l {n : Nat} {bt cl ic cn co : Nat → Nat} {r : Nat} (hn : n ≤ 24) (hb : bt r < 16777216) (hr : r < 60) : ∀ m k g, k + m = n → m < g →
    f_X5_choose_9 (nI n) (aI bt) (aI cl) g (aI ic) (aI (mix (bt r).testBit cn (fun c => cn c + 1) k)) (aI (mix (bt r).testBit co (fun c => cl (24 * r + c)) k)) (nI r) (nI 1) (nI k)
      = some (aI ic, aI (mix (bt r).testBit cn (fun c => cn c + 1) n), aI (mix (bt r).testBit co (fun c => cl (24 * r + c)) n)) := by
  intro m
  induction m with
  | zero =>
    intro k g hk hg
    obtain ⟨q, rfl, hq⟩ := qt_fuel hg
    have e : k = n := by omega
    subst e
    simp only [f_X5_choose_9]
    rw [if_pos (Int32.le_refl _)]
  | succ m ih =>
    intro k g hk hg
    obtain ⟨q, rfl, hq⟩ := qt_fuel hg
    have hstep := ih (k + 1) q (by omega) (by omega)
    simp only [f_X5_choose_9, f_X5_choose_77, f_X5_choose_76, f_X5_choose_45]
    rw [qr_has hb hr (by omega), Option.bind_some]
    simp (disch := omega) only [qz_i0, qz_i1, qz_i2, qz_i3, qz_i4, qz_i5, qz_i6, qz_i7, qz_i8, qz_i9, qz_i24, qz_i27, qz_i31, qz_i60, qz_i61, qz_i100, qz_i101, qz_i50000, qz_i100000, ql_i0, ql_i1, ql_i63, ql_m1, qz_m1, qz_le, qz_lt, qz_eq, qz_add, qz_mul, qz_sub, qz_an, qz_ix, qz_and, qz_or, qz_shl, qz_shr, qz_andn, ql_eq, ql_and, ql_or, ql_shl, ql_shr, ql_andn, ql_of, qz_k31, qz_k63, qz_bit, qz_b0, qz_b1, ql_b0, ql_b1, lg_0, qz_gd, Nat.one_shiftLeft, aI_ap, aL_ap, upd_aI, upd_aL, aV_ap, upd_aV, upd_aVm, mix_k]
    rw [if_neg (by omega)]
    cases h : (bt r).testBit k
    · rw [if_pos rfl]
      rw [mix_n h, mix_n h] at hstep
      exact hstep
    · rw [if_neg (by decide), if_neg (by decide), if_neg (by decide)]
      rw [← mix_s h, ← mix_s h] at hstep
      exact hstep
theorem qr_on {n : Nat} {bt cl ic cn co : Nat → Nat} {r : Nat} (hn : n ≤ 24) (hb : bt r < 16777216) (hr : r < 60) :
    f_X5_choose (nI n) (aI bt) (aI cl) (aI ic) (aI cn) (aI co) (nI r) (nI 1) = some (aI (updN ic r 1), aI (mix (bt r).testBit cn (fun c => cn c + 1) n), aI (mix (bt r).testBit co (fun c => cl (24 * r + c)) n)) := by
  have h := qr_on_l (cl := cl) (ic := updN ic r 1) (cn := cn) (co := co) hn hb hr n 0 1000000 (by omega) (by omega)
  rw [mix_0, mix_0] at h
  unfold f_X5_choose
  rw [qr_vb1]
  simp (disch := omega) only [qz_i0, qz_i1, qz_i2, qz_i3, qz_i4, qz_i5, qz_i6, qz_i7, qz_i8, qz_i9, qz_i24, qz_i27, qz_i31, qz_i60, qz_i61, qz_i100, qz_i101, qz_i50000, qz_i100000, ql_i0, ql_i1, ql_i63, ql_m1, qz_m1, qz_le, qz_lt, qz_eq, qz_add, qz_mul, qz_sub, qz_an, qz_ix, qz_and, qz_or, qz_shl, qz_shr, qz_andn, ql_eq, ql_and, ql_or, ql_shl, ql_shr, ql_andn, ql_of, qz_k31, qz_k63, qz_bit, qz_b0, qz_b1, ql_b0, ql_b1, lg_0, qz_gd, Nat.one_shiftLeft, aI_ap, aL_ap, upd_aI, upd_aL, aV_ap, upd_aV, upd_aVm]
  exact h
theorem qr_off_l {n : Nat} {bt cl ic cn co : Nat → Nat} {r : Nat} (hn : n ≤ 24) (hb : bt r < 16777216) (hr : r < 60) (hc : ∀ c, c < n → (bt r).testBit c = true → 1 ≤ cn c) : ∀ m k g, k + m = n → m < g →
    f_X5_choose_9 (nI n) (aI bt) (aI cl) g (aI ic) (aI (mix (bt r).testBit cn (fun c => cn c - 1) k)) (aI co) (nI r) (nI 0) (nI k)
      = some (aI ic, aI (mix (bt r).testBit cn (fun c => cn c - 1) n), aI co) := by
  intro m
  induction m with
  | zero =>
    intro k g hk hg
    obtain ⟨q, rfl, hq⟩ := qt_fuel hg
    have e : k = n := by omega
    subst e
    simp only [f_X5_choose_9]
    rw [if_pos (Int32.le_refl _)]
  | succ m ih =>
    intro k g hk hg
    obtain ⟨q, rfl, hq⟩ := qt_fuel hg
    have hstep := ih (k + 1) q (by omega) (by omega)
    have hck := hc k (by omega)
    simp only [f_X5_choose_9, f_X5_choose_77, f_X5_choose_76, f_X5_choose_45]
    rw [qr_has hb hr (by omega), Option.bind_some]
    simp (disch := omega) only [qz_i0, qz_i1, qz_i2, qz_i3, qz_i4, qz_i5, qz_i6, qz_i7, qz_i8, qz_i9, qz_i24, qz_i27, qz_i31, qz_i60, qz_i61, qz_i100, qz_i101, qz_i50000, qz_i100000, ql_i0, ql_i1, ql_i63, ql_m1, qz_m1, qz_le, qz_lt, qz_eq, qz_add, qz_mul, qz_sub, qz_an, qz_ix, qz_and, qz_or, qz_shl, qz_shr, qz_andn, ql_eq, ql_and, ql_or, ql_shl, ql_shr, ql_andn, ql_of, qz_k31, qz_k63, qz_bit, qz_b0, qz_b1, ql_b0, ql_b1, lg_0, qz_gd, Nat.one_shiftLeft, aI_ap, aL_ap, upd_aI, upd_aL, aV_ap, upd_aV, upd_aVm, mix_k]
    rw [if_neg (by omega)]
    cases h : (bt r).testBit k
    · rw [if_pos rfl]
      rw [mix_n h] at hstep
      exact hstep
    · have h1 := hck h
      rw [if_neg (by decide)]
      simp (disch := omega) only [qz_i0, qz_i1, qz_i2, qz_i3, qz_i4, qz_i5, qz_i6, qz_i7, qz_i8, qz_i9, qz_i24, qz_i27, qz_i31, qz_i60, qz_i61, qz_i100, qz_i101, qz_i50000, qz_i100000, ql_i0, ql_i1, ql_i63, ql_m1, qz_m1, qz_le, qz_lt, qz_eq, qz_add, qz_mul, qz_sub, qz_an, qz_ix, qz_and, qz_or, qz_shl, qz_shr, qz_andn, ql_eq, ql_and, ql_or, ql_shl, ql_shr, ql_andn, ql_of, qz_k31, qz_k63, qz_bit, qz_b0, qz_b1, ql_b0, ql_b1, lg_0, qz_gd, Nat.one_shiftLeft, aI_ap, aL_ap, upd_aI, upd_aL, aV_ap, upd_aV, upd_aVm, updN_id]
      rw [← mix_s h] at hstep
      exact hstep
theorem qr_off {n : Nat} {bt cl ic cn co : Nat → Nat} {r : Nat} (hn : n ≤ 24) (hb : bt r < 16777216) (hr : r < 60) (hc : ∀ c, c < n → (bt r).testBit c = true → 1 ≤ cn c) :
    f_X5_choose (nI n) (aI bt) (aI cl) (aI ic) (aI cn) (aI co) (nI r) (nI 0) = some (aI (updN ic r 0), aI (mix (bt r).testBit cn (fun c => cn c - 1) n), aI co) := by
  have h := qr_off_l (cl := cl) (ic := updN ic r 0) (cn := cn) (co := co) hn hb hr hc n 0 1000000 (by omega) (by omega)
  rw [mix_0] at h
  unfold f_X5_choose
  rw [qr_vb0]
  simp (disch := omega) only [qz_i0, qz_i1, qz_i2, qz_i3, qz_i4, qz_i5, qz_i6, qz_i7, qz_i8, qz_i9, qz_i24, qz_i27, qz_i31, qz_i60, qz_i61, qz_i100, qz_i101, qz_i50000, qz_i100000, ql_i0, ql_i1, ql_i63, ql_m1, qz_m1, qz_le, qz_lt, qz_eq, qz_add, qz_mul, qz_sub, qz_an, qz_ix, qz_and, qz_or, qz_shl, qz_shr, qz_andn, ql_eq, ql_and, ql_or, ql_shl, ql_shr, ql_andn, ql_of, qz_k31, qz_k63, qz_bit, qz_b0, qz_b1, ql_b0, ql_b1, lg_0, qz_gd, Nat.one_shiftLeft, aI_ap, aL_ap, upd_aI, upd_aL, aV_ap, upd_aV, upd_aVm]
  exact h
def allK (P : Nat → Bool) : Nat → Nat → Bool
  | 0, _ => true
  | m + 1, k => P k && allK P m (k + 1)
theorem allK_iff (P : Nat → Bool) : ∀ m k, allK P m k = true ↔ ∀ c, k ≤ c → c < k + m → P c = true
  | 0, k => ⟨fun _ c h1 h2 => by omega, fun _ => rfl⟩
  | m + 1, k => by
    rw [allK, Bool.and_eq_true, allK_iff P m (k + 1)]
    constructor
    · rintro ⟨h1, h2⟩ c c1 c2
      by_cases e : c = k
      · rw [e]; exact h1
      · exact h2 c (by omega) (by omega)
    · intro h
      exact ⟨h k (by omega) (by omega), fun c c1 c2 => h c (by omega) (by omega)⟩
def ftB (nd : Nat) (tm bt cl cn co : Nat → Nat) (r c : Nat) : Bool :=
  !(bt r).testBit c || (if c < nd then decide (cn c < tm c) else (decide (cn c = 0) || (!decide (cl (24 * r + c) = 0) && decide (cl (24 * r + c) = co c))))
theorem qr_fits_l {n nd : Nat} {tm bt cl cn co : Nat → Nat} {r : Nat} (hn : n ≤ 24) (hnd : nd ≤ n) (hb : bt r < 16777216) (hr : r < 60) (htm : ∀ c, c < n → tm c < 2147483648) (hcn : ∀ c, c < n → cn c < 2147483648) (hcl : ∀ j, cl j < 2147483648) (hco : ∀ c, nd ≤ c → c < n → co c < 2147483648 ∨ cn c = 0) : ∀ m k g, k + m = n → m < g →
    f_X5_fits_2 (nI n) (nI nd) (aI tm) (aI bt) (aI cl) (aI cn) (aI co) g (nI r) (nI k) = some (nI (allK (ftB nd tm bt cl cn co r) m k).toNat, ()) := by
  intro m
  induction m with
  | zero =>
    intro k g hk hg
    obtain ⟨q, rfl, hq⟩ := qt_fuel hg
    have e : k = n := by omega
    subst e
    simp only [f_X5_fits_2]
    rw [if_pos (Int32.le_refl _)]
    rfl
  | succ m ih =>
    intro k g hk hg
    obtain ⟨q, rfl, hq⟩ := qt_fuel hg
    have hstep := ih (k + 1) q (by omega) (by omega)
    have a1 := htm k (by omega)
    have a2 := hcn k (by omega)
    have a3 := hcl (24 * r + k)
    simp only [f_X5_fits_2, f_X5_fits_83, f_X5_fits_85]
    rw [qr_has hb hr (by omega), Option.bind_some]
    simp (disch := omega) only [qz_i0, qz_i1, qz_i2, qz_i3, qz_i4, qz_i5, qz_i6, qz_i7, qz_i8, qz_i9, qz_i24, qz_i27, qz_i31, qz_i60, qz_i61, qz_i100, qz_i101, qz_i50000, qz_i100000, ql_i0, ql_i1, ql_i63, ql_m1, qz_m1, qz_le, qz_lt, qz_eq, qz_add, qz_mul, qz_sub, qz_an, qz_ix, qz_and, qz_or, qz_shl, qz_shr, qz_andn, ql_eq, ql_and, ql_or, ql_shl, ql_shr, ql_andn, ql_of, qz_k31, qz_k63, qz_bit, qz_b0, qz_b1, ql_b0, ql_b1, lg_0, qz_gd, Nat.one_shiftLeft, aI_ap, aL_ap, upd_aI, upd_aL, aV_ap, upd_aV, upd_aVm]
    rw [if_neg (by omega), allK]
    have hgd : ¬ (24 * r + k < 0 ∨ 1440 ≤ 24 * r + k) := by omega
    cases h : (bt r).testBit k
    · have e : ftB nd tm bt cl cn co r k = true := by unfold ftB; rw [h]; rfl
      rw [if_pos rfl, e, Bool.true_and]
      exact hstep
    · rw [if_neg (by decide)]
      by_cases h1 : nd ≤ k
      · rw [if_pos h1]
        by_cases h2 : cn k = 0
        · have e : ftB nd tm bt cl cn co r k = true := by unfold ftB; rw [h, if_neg (by omega), decide_eq_true h2]; rfl
          rw [if_pos (by omega), e, Bool.true_and]
          exact hstep
        · have a4 : co k < 2147483648 := (hco k h1 (by omega)).resolve_right h2
          rw [if_neg (by omega)]
          by_cases h3 : cl (24 * r + k) = 0
          · have e : ftB nd tm bt cl cn co r k = false := by unfold ftB; rw [h, if_neg (by omega), decide_eq_false h2, decide_eq_true h3]; rfl
            rw [if_pos h3, e, Bool.false_and]
            rfl
          · rw [if_neg h3]
            simp (disch := omega) only [qz_i0, qz_i1, qz_i2, qz_i3, qz_i4, qz_i5, qz_i6, qz_i7, qz_i8, qz_i9, qz_i24, qz_i27, qz_i31, qz_i60, qz_i61, qz_i100, qz_i101, qz_i50000, qz_i100000, ql_i0, ql_i1, ql_i63, ql_m1, qz_m1, qz_le, qz_lt, qz_eq, qz_add, qz_mul, qz_sub, qz_an, qz_ix, qz_and, qz_or, qz_shl, qz_shr, qz_andn, ql_eq, ql_and, ql_or, ql_shl, ql_shr, ql_andn, ql_of, qz_k31, qz_k63, qz_bit, qz_b0, qz_b1, ql_b0, ql_b1, lg_0, qz_gd, Nat.one_shiftLeft, aI_ap, aL_ap, upd_aI, upd_aL, aV_ap, upd_aV, upd_aVm]
            by_cases h4 : cl (24 * r + k) = co k
            · have e : ftB nd tm bt cl cn co r k = true := by unfold ftB; rw [h, if_neg (by omega), decide_eq_false h2, decide_eq_false h3, decide_eq_true h4]; rfl
              rw [if_pos h4, e, Bool.true_and]
              exact hstep
            · have e : ftB nd tm bt cl cn co r k = false := by unfold ftB; rw [h, if_neg (by omega), decide_eq_false h2, decide_eq_false h3, decide_eq_false h4]; rfl
              rw [if_neg h4, e, Bool.false_and]
              rfl
      · rw [if_neg h1]
        by_cases h2 : cn k < tm k
        · have e : ftB nd tm bt cl cn co r k = true := by unfold ftB; rw [h, if_pos (by omega), decide_eq_true h2]; rfl
          rw [if_pos h2, e, Bool.true_and]
          exact hstep
        · have e : ftB nd tm bt cl cn co r k = false := by unfold ftB; rw [h, if_pos (by omega), decide_eq_false h2]; rfl
          rw [if_neg h2, e, Bool.false_and]
          rfl
theorem qr_fits {n nd : Nat} {tm bt cl cn co : Nat → Nat} {r : Nat} (hn : n ≤ 24) (hnd : nd ≤ n) (hb : bt r < 16777216) (hr : r < 60) (htm : ∀ c, c < n → tm c < 2147483648) (hcn : ∀ c, c < n → cn c < 2147483648) (hcl : ∀ j, cl j < 2147483648) (hco : ∀ c, nd ≤ c → c < n → co c < 2147483648 ∨ cn c = 0) :
    f_X5_fits (nI n) (nI nd) (aI tm) (aI bt) (aI cl) (aI cn) (aI co) (nI r) = some (nI (allK (ftB nd tm bt cl cn co r) n 0).toNat, ()) :=
  qr_fits_l hn hnd hb hr htm hcn hcl hco n 0 1000000 (by omega) (by omega)
theorem qr_hasNeeded {nd : Nat} {bt : Nat → Nat} {r : Nat} (hnd : nd ≤ 24) (hb : bt r < 16777216) (hr : r < 60) : f_X5_hasNeeded (nI nd) (aI bt) (nI r) = some (nI (!decide (bt r &&& (2 ^ nd - 1) = 0)).toNat, ()) := by
  have hp : 1 ≤ 2 ^ nd := Nat.two_pow_pos nd
  have h2 : bt r &&& (2 ^ nd - 1) ≤ bt r := Nat.and_le_left
  unfold f_X5_hasNeeded f_X5_hasNeeded_23
  simp (disch := omega) only [qz_i0, qz_i1, qz_i2, qz_i3, qz_i4, qz_i5, qz_i6, qz_i7, qz_i8, qz_i9, qz_i24, qz_i27, qz_i31, qz_i60, qz_i61, qz_i100, qz_i101, qz_i50000, qz_i100000, ql_i0, ql_i1, ql_i63, ql_m1, qz_m1, qz_le, qz_lt, qz_eq, qz_add, qz_mul, qz_sub, qz_an, qz_ix, qz_and, qz_or, qz_shl, qz_shr, qz_andn, ql_eq, ql_and, ql_or, ql_shl, ql_shr, ql_andn, ql_of, qz_k31, qz_k63, qz_bit, qz_b0, qz_b1, ql_b0, ql_b1, lg_0, qz_gd, Nat.one_shiftLeft, aI_ap, aL_ap, upd_aI, upd_aL, aV_ap, upd_aV, upd_aVm]
  by_cases h : bt r &&& (2 ^ nd - 1) = 0
  · rw [if_pos h, if_neg (by decide), decide_eq_true h]; rfl
  · rw [if_neg h, if_neg (by decide), decide_eq_false h]; rfl
