-- the reference: begin, candidates, best, keep, arrive
def TS (tk : Nat → Nat) : Nat → Nat
  | 0 => 0
  | k + 1 => TS tk k ||| 2 ^ tk k
def tkOk (n nd R : Nat) (tm bt cl tk : Nat → Nat) (T : Nat) : Prop := ∀ k, k < T → frT n nd R tm bt cl (TS tk k) (tk k)
theorem TS_ok {n nd R : Nat} {tm bt cl tk : Nat → Nat} {T : Nat} (hR : R ≤ 60) (h : tkOk n nd R tm bt cl tk T) : ∀ k, k ≤ T → okT n nd R tm bt cl (TS tk k) ∧ TS tk k < 2 ^ 60 ∧ k ≤ pc (TS tk k) 60
  | 0, _ => ⟨okS_0, by rw [TS]; decide, Nat.zero_le _⟩
  | k + 1, hk => by
    have ih := TS_ok hR h k (by omega)
    have hf := h k (by omega)
    have h60 : tk k < 60 := by have := hf.1; omega
    refine ⟨okS_add (tabF bt cl hR) ih.1 hf, Nat.or_lt_two_pow ih.2.1 (Nat.pow_lt_pow_right (by decide) h60), ?_⟩
    have e : pc (TS tk (k + 1)) 60 = pc (TS tk k) 60 + 1 := pc_bit (r := tk k) h60 hf.2.1 (by rw [TS, tb_or2]; simp) (fun i hi q => by rw [TS, tb_or2, decide_eq_false (Ne.symm q), Bool.or_false])
    omega
theorem TS_60 {n nd R : Nat} {tm bt cl tk : Nat → Nat} {T : Nat} (hR : R ≤ 60) (h : tkOk n nd R tm bt cl tk T) : T ≤ 60 := by
  have a := (TS_ok hR h T (Nat.le_refl _)).2.2
  have b := pc_le (TS tk T) 60
  omega
theorem qv_b51 {n nd R : Nat} {tm bt cl tk : Nat → Nat} {T : Nat} {ba : Nat → Nat} (hT : TB n nd R tm bt cl) (hk : tkOk n nd R tm bt cl tk T) : ∀ m k g ic cn co, k + m = T → m < g → relC n nd R bt cl (TS tk k) ic cn co →
    ∃ ic' cn' co', f_X5_begin_51 (nI n) (nI T) (aI bt) (aI cl) (aI tk) g (aI ic) (aV ba) (aI cn) (aI co) (nI k) = some (aI ic', aV ba, aI cn', aI co') ∧ relC n nd R bt cl (TS tk T) ic' cn' co' := by
  have h60 := TS_60 hT.2.2.2.1 hk
  intro m
  induction m with
  | zero =>
    intro k g ic cn co e hg hr
    obtain ⟨q, rfl, hq⟩ := qt_fuel hg
    have e2 : k = T := by omega
    subst e2
    refine ⟨ic, cn, co, ?_, hr⟩
    simp only [f_X5_begin_51]
    rw [if_pos (Int32.le_refl _)]
  | succ m ih =>
    intro k g ic cn co e hg hr
    obtain ⟨q, rfl, hq⟩ := qt_fuel hg
    have hf := hk k (by omega)
    have hok := (TS_ok hT.2.2.2.1 hk k (by omega)).1
    have hon := relC_on hT.2.2.2.1 (fun o ho => (hok.1 o ho).1) hr hf.1 hf.2.1 hf.2.2.2.1
    obtain ⟨ic', cn', co', h1, h2⟩ := ih (k + 1) q _ _ _ (by omega) (by omega) hon
    refine ⟨ic', cn', co', ?_, h2⟩
    simp only [f_X5_begin_51]
    simp (disch := omega) only [qz_i0, qz_i1, qz_i2, qz_i3, qz_i4, qz_i5, qz_i6, qz_i7, qz_i8, qz_i9, qz_i24, qz_i27, qz_i31, qz_i60, qz_i61, qz_i100, qz_i101, qz_i50000, qz_i100000, ql_i0, ql_i1, ql_i63, ql_m1, qz_m1, qz_le, qz_lt, qz_eq, qz_add, qz_mul, qz_sub, qz_an, qz_ix, qz_and, qz_or, qz_shl, qz_shr, qz_andn, ql_eq, ql_and, ql_or, ql_shl, ql_shr, ql_andn, ql_of, qz_k31, qz_k63, qz_bit, qz_b0, qz_b1, ql_b0, ql_b1, lg_0, qz_gd, Nat.one_shiftLeft, aI_ap, aL_ap, upd_aI, upd_aL, aV_ap, upd_aV, upd_aVm]
    rw [if_neg (by omega), qr_on hT.2.1 (hT.b24 _) (by have := hf.1; have := hT.2.2.2.1; omega), Option.bind_some]
    exact h1
theorem qv_b30 {y1 y2 : Int32} {vb vc vt : Nat → Int32} {vic vba vco : Nat → Int32} {cn : Nat → Nat} : ∀ m k g, k + m = 24 → m < g →
    f_X5_begin_30 y1 y2 vb vc vt g vic vba (aI (mix (fun _ => true) cn (fun _ => 0) k)) vco (nI k) = f_X5_begin_51 y1 y2 vb vc vt 1000000 vic vba (aI (mix (fun _ => true) cn (fun _ => 0) 24)) vco (nI 0) := by
  intro m
  induction m with
  | zero =>
    intro k g hk hg
    obtain ⟨q, rfl, hq⟩ := qt_fuel hg
    have e : k = 24 := by omega
    subst e
    simp only [f_X5_begin_30]
    rw [qz_i24, if_pos (Int32.le_refl _)]
    rfl
  | succ m ih =>
    intro k g hk hg
    obtain ⟨q, rfl, hq⟩ := qt_fuel hg
    have hstep := ih (k + 1) q (by omega) (by omega)
    rw [← mix_s rfl] at hstep
    simp only [f_X5_begin_30]
    simp (disch := omega) only [qz_i0, qz_i1, qz_i2, qz_i3, qz_i4, qz_i5, qz_i6, qz_i7, qz_i8, qz_i9, qz_i24, qz_i27, qz_i31, qz_i60, qz_i61, qz_i100, qz_i101, qz_i50000, qz_i100000, ql_i0, ql_i1, ql_i63, ql_m1, qz_m1, qz_le, qz_lt, qz_eq, qz_add, qz_mul, qz_sub, qz_an, qz_ix, qz_and, qz_or, qz_shl, qz_shr, qz_andn, ql_eq, ql_and, ql_or, ql_shl, ql_shr, ql_andn, ql_of, qz_k31, qz_k63, qz_bit, qz_b0, qz_b1, ql_b0, ql_b1, lg_0, qz_gd, Nat.one_shiftLeft, aI_ap, aL_ap, upd_aI, upd_aL, aV_ap, upd_aV, upd_aVm]
    rw [if_neg (by omega)]
    exact hstep
theorem qv_b2 {y1 y2 : Int32} {vb vc vt : Nat → Int32} {vcn vco : Nat → Int32} {ic ba : Nat → Nat} : ∀ m k g, k + m = 60 → m < g →
    f_X5_begin_2 y1 y2 vb vc vt g (aI (mix (fun _ => true) ic (fun _ => 0) k)) (aV (mix (fun _ => true) ba (fun _ => 0) k)) vcn vco (nI k) = f_X5_begin_30 y1 y2 vb vc vt 1000000 (aI (mix (fun _ => true) ic (fun _ => 0) 60)) (aV (mix (fun _ => true) ba (fun _ => 0) 60)) vcn vco (nI 0) := by
  intro m
  induction m with
  | zero =>
    intro k g hk hg
    obtain ⟨q, rfl, hq⟩ := qt_fuel hg
    have e : k = 60 := by omega
    subst e
    simp only [f_X5_begin_2]
    rw [qz_i60, if_pos (Int32.le_refl _)]
    rfl
  | succ m ih =>
    intro k g hk hg
    obtain ⟨q, rfl, hq⟩ := qt_fuel hg
    have hstep := ih (k + 1) q (by omega) (by omega)
    rw [← mix_s rfl, ← mix_s rfl] at hstep
    simp only [f_X5_begin_2]
    simp (disch := omega) only [qz_i0, qz_i1, qz_i2, qz_i3, qz_i4, qz_i5, qz_i6, qz_i7, qz_i8, qz_i9, qz_i24, qz_i27, qz_i31, qz_i60, qz_i61, qz_i100, qz_i101, qz_i50000, qz_i100000, ql_i0, ql_i1, ql_i63, ql_m1, qz_m1, qz_le, qz_lt, qz_eq, qz_add, qz_mul, qz_sub, qz_an, qz_ix, qz_and, qz_or, qz_shl, qz_shr, qz_andn, ql_eq, ql_and, ql_or, ql_shl, ql_shr, ql_andn, ql_of, qz_k31, qz_k63, qz_bit, qz_b0, qz_b1, ql_b0, ql_b1, lg_0, qz_gd, Nat.one_shiftLeft, aI_ap, aL_ap, upd_aI, upd_aL, aV_ap, upd_aV, upd_aVm, qr_vb0]
    rw [if_neg (by omega)]
    exact hstep
theorem qv_begin {n nd R : Nat} {tm bt cl tk : Nat → Nat} {T : Nat} (ic ba cn co : Nat → Nat) (hT : TB n nd R tm bt cl) (hk : tkOk n nd R tm bt cl tk T) :
    ∃ ic' ba' cn' co', f_X5_begin (nI n) (nI T) (aI bt) (aI cl) (aI tk) (aI ic) (aV ba) (aI cn) (aI co) = some (aI ic', aV ba', aI cn', aI co') ∧ relC n nd R bt cl (TS tk T) ic' cn' co' ∧ ∀ j, j < 60 → ba' j = 0 := by
  have h0 : relC n nd R bt cl (TS tk 0) (mix (fun _ => true) ic (fun _ => 0) 60) (mix (fun _ => true) cn (fun _ => 0) 24) co := by
    refine ⟨?_, ?_, ?_⟩
    · intro r hr
      rw [TS, Nat.zero_testBit]
      exact if_pos ⟨hr, rfl⟩
    · intro c hc
      have := hT.2.1
      rw [TS, Nat.and_zero, show pc 0 64 = 0 by decide]
      exact if_pos ⟨by omega, rfl⟩
    · intro r c h
      rw [TS, Nat.zero_testBit] at h; cases h
  obtain ⟨ic', cn', co', h1, h2⟩ := qv_b51 (ba := mix (fun _ => true) ba (fun _ => 0) 60) hT hk T 0 1000000 _ _ _ (by omega) (by have := TS_60 hT.2.2.2.1 hk; omega) h0
  refine ⟨ic', mix (fun _ => true) ba (fun _ => 0) 60, cn', co', ?_, h2, ?_⟩
  · unfold f_X5_begin
    have e2 := qv_b2 (y1 := nI n) (y2 := nI T) (vb := aI bt) (vc := aI cl) (vt := aI tk) (vcn := aI cn) (vco := aI co) (ic := ic) (ba := ba) 60 0 1000000 (by omega) (by omega)
    rw [mix_0, mix_0] at e2
    have e3 := qv_b30 (y1 := nI n) (y2 := nI T) (vb := aI bt) (vc := aI cl) (vt := aI tk) (vic := aI (mix (fun _ => true) ic (fun _ => 0) 60)) (vba := aV (mix (fun _ => true) ba (fun _ => 0) 60)) (vco := aI co) (cn := cn) 24 0 1000000 (by omega) (by omega)
    rw [mix_0] at e3
    exact e2.trans (e3.trans h1)
  · intro j hj
    exact if_pos ⟨hj, rfl⟩
/-- the free rows of a node, by the reference's barredAt -/
def relF (n nd R : Nat) (tm bt cl ba : Nat → Nat) (X F : Nat) : Prop := (∀ r, F.testBit r = true → r < R) ∧ ∀ r, r < R → (F.testBit r = true ↔ frT n nd R tm bt cl X r ∧ ba r = 0)
theorem qv_lv {b : Nat} (h : b < 2147483648) : (nI 0 ≤ lvI b) ↔ b ≠ 0 := by
  cases b with
  | zero => exact ⟨fun a => absurd a (by decide), fun a => absurd rfl a⟩
  | succ b => rw [lvI, qz_le (by omega) (by omega)]; exact ⟨fun _ => by omega, fun _ => by omega⟩
theorem qv_lvn {b : Nat} (h : b < 2147483648) : (lvI b < nI 0) ↔ b = 0 := by
  cases b with
  | zero => exact ⟨fun _ => rfl, fun _ => by decide⟩
  | succ b => rw [lvI, qz_lt (by omega) (by omega)]; exact ⟨fun _ => by omega, fun _ => by omega⟩
theorem qv_isCand {n nd R : Nat} {tm bt cl ic cn co ba : Nat → Nat} {X F r c : Nat} (hT : TB n nd R tm bt cl) (hX : ∀ o, X.testBit o = true → o < R) (h : relC n nd R bt cl X ic cn co) (hF : relF n nd R tm bt cl ba X F) (hba : ∀ j, j < 60 → ba j ≤ 61) (hr : r < R) (hc : c < nd) :
    f_X5_isCandidate (nI n) (nI nd) (aI tm) (aI bt) (aI cl) (aI ic) (aV ba) (aI cn) (aI co) (nI r) (nI c) = some (nI ((roF R bt c &&& F).testBit r).toNat, ()) := by
  have h60 := hT.2.2.2.1
  have hn := hT.2.1
  have hnd := hT.2.2.1
  have hic := h.1 r (by omega)
  have hb := hba r (by omega)
  have hbF := hF.2 r hr
  have e0 : (roF R bt c &&& F).testBit r = ((bt r).testBit c && F.testBit r) := by rw [Nat.testBit_and, roF_tb, decide_eq_true hr, Bool.true_and]
  rw [e0]
  unfold f_X5_isCandidate f_X5_isCandidate_39 f_X5_isCandidate_40
  rw [qr_has (hT.b24 r) (by omega) (by omega), Option.bind_some]
  simp (disch := omega) only [qz_i0, qz_i1, qz_i2, qz_i3, qz_i4, qz_i5, qz_i6, qz_i7, qz_i8, qz_i9, qz_i24, qz_i27, qz_i31, qz_i60, qz_i61, qz_i100, qz_i101, qz_i50000, qz_i100000, ql_i0, ql_i1, ql_i63, ql_m1, qz_m1, qz_le, qz_lt, qz_eq, qz_add, qz_mul, qz_sub, qz_an, qz_ix, qz_and, qz_or, qz_shl, qz_shr, qz_andn, ql_eq, ql_and, ql_or, ql_shl, ql_shr, ql_andn, ql_of, qz_k31, qz_k63, qz_bit, qz_b0, qz_b1, ql_b0, ql_b1, lg_0, qz_gd, Nat.one_shiftLeft, aI_ap, aL_ap, upd_aI, upd_aL, aV_ap, upd_aV, upd_aVm, hic, qu_fits hT h hr, Option.bind_some, qv_lv]
  cases hh : (bt r).testBit c
  · rw [if_pos rfl, if_neg (by decide)]; rfl
  · rw [if_neg (by decide), Bool.true_and]
    cases hx : X.testBit r
    · rw [if_pos rfl]
      by_cases hbz : ba r = 0
      · rw [if_neg (fun a => a hbz)]
        have e2 := fits_iff (tm := tm) h60 hnd hX h hr hx
        cases hf : allK (ftB nd tm bt cl cn co r) n 0
        · rw [hf] at e2
          have : F.testBit r = false := by
            cases q : F.testBit r
            · rfl
            · have a := (hbF.1 q).1
              exact absurd (e2.2 ⟨a.2.2.2.1, a.2.2.2.2⟩) (by decide)
          rw [this, if_pos rfl, if_neg (by decide)]; rfl
        · rw [hf] at e2
          have : F.testBit r = true := hbF.2 ⟨⟨hr, hx, ⟨c, hc, hh⟩, (e2.1 rfl).1, (e2.1 rfl).2⟩, hbz⟩
          rw [this, if_neg (by decide), if_neg (by decide)]; rfl
      · have : F.testBit r = false := by
          cases q : F.testBit r
          · rfl
          · exact absurd (hbF.1 q).2 hbz
        rw [if_pos hbz, this, if_neg (by decide)]; rfl
    · have : F.testBit r = false := by
        cases q : F.testBit r
        · rfl
        · have a := (hbF.1 q).1.2.1; rw [hx] at a; cases a
      rw [if_neg (by decide), this, if_neg (by decide)]; rfl
theorem pc_top {x a : Nat} (h : ∀ i, a ≤ i → x.testBit i = false) : ∀ m, pc x (a + m) = pc x a
  | 0 => rfl
  | m + 1 => by
    show pc x (a + m) + (x.testBit (a + m)).toNat = _
    rw [h (a + m) (by omega), pc_top h m]; rfl
theorem pc_R {R : Nat} {bt : Nat → Nat} (hR : R ≤ 60) (c F : Nat) : pc (roF R bt c &&& F) 64 = pc (roF R bt c &&& F) R := by
  have e : 64 = R + (64 - R) := by omega
  rw [e, pc_top]
  intro i hi
  rw [Nat.testBit_and, roF_tb, decide_eq_false (by omega), Bool.false_and, Bool.false_and]
theorem qv_candidates {n nd R : Nat} {tm bt cl ic cn co ba : Nat → Nat} {X F c : Nat} (hT : TB n nd R tm bt cl) (hX : ∀ o, X.testBit o = true → o < R) (h : relC n nd R bt cl X ic cn co) (hF : relF n nd R tm bt cl ba X F) (hba : ∀ j, j < 60 → ba j ≤ 61) (hc : c < nd) :
    f_X5_candidates (nI n) (nI nd) (nI R) (aI tm) (aI bt) (aI cl) (aI ic) (aV ba) (aI cn) (aI co) (nI c) = some (nI (pc (roF R bt c &&& F) 64), ()) := by
  have h60 := hT.2.2.2.1
  rw [pc_R h60]
  have key : ∀ m k g, k + m = R → m < g → f_X5_candidates_4 (nI n) (nI nd) (nI R) (aI tm) (aI bt) (aI cl) (aI ic) (aV ba) (aI cn) (aI co) g (nI c) (nI (pc (roF R bt c &&& F) k)) (nI k) = some (nI (pc (roF R bt c &&& F) R), ()) := by
    intro m
    induction m with
    | zero =>
      intro k g hk hg
      obtain ⟨q, rfl, hq⟩ := qt_fuel hg
      have e : k = R := by omega
      subst e
      simp only [f_X5_candidates_4]
      rw [if_pos (Int32.le_refl _)]
    | succ m ih =>
      intro k g hk hg
      obtain ⟨q, rfl, hq⟩ := qt_fuel hg
      have hstep := ih (k + 1) q (by omega) (by omega)
      simp only [f_X5_candidates_4, f_X5_candidates_27]
      rw [qv_isCand hT hX h hF hba (by omega) hc, Option.bind_some]
      simp (disch := omega) only [qz_i0, qz_i1, qz_i2, qz_i3, qz_i4, qz_i5, qz_i6, qz_i7, qz_i8, qz_i9, qz_i24, qz_i27, qz_i31, qz_i60, qz_i61, qz_i100, qz_i101, qz_i50000, qz_i100000, ql_i0, ql_i1, ql_i63, ql_m1, qz_m1, qz_le, qz_lt, qz_eq, qz_add, qz_mul, qz_sub, qz_an, qz_ix, qz_and, qz_or, qz_shl, qz_shr, qz_andn, ql_eq, ql_and, ql_or, ql_shl, ql_shr, ql_andn, ql_of, qz_k31, qz_k63, qz_bit, qz_b0, qz_b1, ql_b0, ql_b1, lg_0, qz_gd, Nat.one_shiftLeft, aI_ap, aL_ap, upd_aI, upd_aL, aV_ap, upd_aV, upd_aVm]
      rw [if_neg (by omega)]
      rw [pc] at hstep
      cases hb : (roF R bt c &&& F).testBit k
      · rw [hb] at hstep
        rw [if_pos rfl]
        exact hstep
      · rw [hb] at hstep
        rw [if_neg (by decide)]
        exact hstep
  exact key R 0 1000000 (by omega) (by omega)
theorem qv_best {n nd R : Nat} {tm bt cl ic cn co ba : Nat → Nat} {X F : Nat} (hT : TB n nd R tm bt cl) (hX : ∀ o, X.testBit o = true → o < R) (h : relC n nd R bt cl X ic cn co) (hF : relF n nd R tm bt cl ba X F) (hba : ∀ j, j < 60 → ba j ≤ 61) :
    f_X5_best (nI n) (nI nd) (nI R) (aI tm) (aI bt) (aI cl) (aI ic) (aV ba) (aI cn) (aI co) = some (oI (bestF (fun c => decide (cn c ≠ tm c)) (fun c => pc (roF R bt c &&& F) 64) nd).1, ()) := by
  have h60 := hT.2.2.2.1
  have hn := hT.2.1
  have hnd := hT.2.2.1
  have key : ∀ m k g, k + m = nd → m < g → f_X5_best_7 (nI n) (nI nd) (nI R) (aI tm) (aI bt) (aI cl) (aI ic) (aV ba) (aI cn) (aI co) g (oI (bestF (fun c => decide (cn c ≠ tm c)) (fun c => pc (roF R bt c &&& F) 64) k).1) (nI (bestF (fun c => decide (cn c ≠ tm c)) (fun c => pc (roF R bt c &&& F) 64) k).2) (nI k)
      = some (oI (bestF (fun c => decide (cn c ≠ tm c)) (fun c => pc (roF R bt c &&& F) 64) nd).1, ()) := by
    intro m
    induction m with
    | zero =>
      intro k g hk hg
      obtain ⟨q, rfl, hq⟩ := qt_fuel hg
      have e : k = nd := by omega
      subst e
      simp only [f_X5_best_7]
      rw [if_pos (Int32.le_refl _)]
    | succ m ih =>
      intro k g hk hg
      obtain ⟨q, rfl, hq⟩ := qt_fuel hg
      have hstep := ih (k + 1) q (by omega) (by omega)
      have hpc : pc (roF R bt k &&& F) 64 ≤ 64 := pc_le _ _
      have hcn := relC_cn h k (by omega)
      have htm := hT.2.2.2.2.2.2.2.1 k
      have hl := (bestF_lt (fun c => decide (cn c ≠ tm c)) (fun c => pc (roF R bt c &&& F) 64) k).1
      simp only [f_X5_best_7, f_X5_best_54]
      rw [qv_candidates hT hX h hF hba (by omega), Option.bind_some]
      simp (disch := omega) only [qz_i0, qz_i1, qz_i2, qz_i3, qz_i4, qz_i5, qz_i6, qz_i7, qz_i8, qz_i9, qz_i24, qz_i27, qz_i31, qz_i60, qz_i61, qz_i100, qz_i101, qz_i50000, qz_i100000, ql_i0, ql_i1, ql_i63, ql_m1, qz_m1, qz_le, qz_lt, qz_eq, qz_add, qz_mul, qz_sub, qz_an, qz_ix, qz_and, qz_or, qz_shl, qz_shr, qz_andn, ql_eq, ql_and, ql_or, ql_shl, ql_shr, ql_andn, ql_of, qz_k31, qz_k63, qz_bit, qz_b0, qz_b1, ql_b0, ql_b1, lg_0, qz_gd, Nat.one_shiftLeft, aI_ap, aL_ap, upd_aI, upd_aL, aV_ap, upd_aV, upd_aVm]
      rw [if_neg (by omega)]
      rw [bestF] at hstep
      by_cases h1 : cn k = tm k
      · rw [if_neg (fun c => by have := decide_eq_true_iff.1 c.1; exact this h1)] at hstep
        rw [if_pos h1]
        exact hstep
      · rw [if_neg h1]
        by_cases h2 : pc (roF R bt k &&& F) 64 < (bestF (fun c => decide (cn c ≠ tm c)) (fun c => pc (roF R bt c &&& F) 64) k).2
        · rw [if_pos ⟨decide_eq_true h1, h2⟩] at hstep
          rw [if_pos h2]
          exact hstep
        · rw [if_neg (fun c => h2 c.2)] at hstep
          rw [if_neg h2]
          exact hstep
  exact key nd 0 1000000 (by omega) (by omega)
theorem qv_keep {n nd R : Nat} {bt cl ic cn co w : Nat → Nat} {X fo : Nat} (hR : R ≤ 60) (hX : ∀ o, X.testBit o = true → o < R) (h : relC n nd R bt cl X ic cn co) (hfo : fo < 1000000) :
    f_X5_keep (nI R) (aI ic) (nI fo) (aL w) = some (nI (fo + 1), aL (if fo < 100 then updN w fo X else w)) := by
  have key : ∀ m k g, k + m = R → m < g → fo < 100 → f_X5_keep_18 (nI R) (aI ic) g (nI fo) (aL (updN w fo (bs X.testBit k))) (nI k) = some (nI (fo + 1), aL (updN w fo (bs X.testBit R))) := by
    intro m
    induction m with
    | zero =>
      intro k g hk hg hf
      obtain ⟨q, rfl, hq⟩ := qt_fuel hg
      have e : k = R := by omega
      subst e
      simp only [f_X5_keep_18, f_X5_keep_61]
      rw [if_pos (Int32.le_refl _)]
      simp (disch := omega) only [qz_i0, qz_i1, qz_i2, qz_i3, qz_i4, qz_i5, qz_i6, qz_i7, qz_i8, qz_i9, qz_i24, qz_i27, qz_i31, qz_i60, qz_i61, qz_i100, qz_i101, qz_i50000, qz_i100000, ql_i0, ql_i1, ql_i63, ql_m1, qz_m1, qz_le, qz_lt, qz_eq, qz_add, qz_mul, qz_sub, qz_an, qz_ix, qz_and, qz_or, qz_shl, qz_shr, qz_andn, ql_eq, ql_and, ql_or, ql_shl, ql_shr, ql_andn, ql_of, qz_k31, qz_k63, qz_bit, qz_b0, qz_b1, ql_b0, ql_b1, lg_0, qz_gd, Nat.one_shiftLeft, aI_ap, aL_ap, upd_aI, upd_aL, aV_ap, upd_aV, upd_aVm]
    | succ m ih =>
      intro k g hk hg hf
      obtain ⟨q, rfl, hq⟩ := qt_fuel hg
      have hstep := ih (k + 1) q (by omega) (by omega) hf
      have hic := h.1 k (by omega)
      simp only [f_X5_keep_18, f_X5_keep_53]
      simp (disch := omega) only [qz_i0, qz_i1, qz_i2, qz_i3, qz_i4, qz_i5, qz_i6, qz_i7, qz_i8, qz_i9, qz_i24, qz_i27, qz_i31, qz_i60, qz_i61, qz_i100, qz_i101, qz_i50000, qz_i100000, ql_i0, ql_i1, ql_i63, ql_m1, qz_m1, qz_le, qz_lt, qz_eq, qz_add, qz_mul, qz_sub, qz_an, qz_ix, qz_and, qz_or, qz_shl, qz_shr, qz_andn, ql_eq, ql_and, ql_or, ql_shl, ql_shr, ql_andn, ql_of, qz_k31, qz_k63, qz_bit, qz_b0, qz_b1, ql_b0, ql_b1, lg_0, qz_gd, Nat.one_shiftLeft, aI_ap, aL_ap, upd_aI, upd_aL, aV_ap, upd_aV, upd_aVm, hic, updN_s, updN_2]
      rw [if_neg (by omega)]
      rw [qz_bss] at hstep
      cases hb : X.testBit k
      · rw [hb, if_neg (by decide)] at hstep
        rw [if_pos rfl]
        exact hstep
      · rw [hb, if_pos rfl] at hstep
        rw [if_neg (by decide)]
        exact hstep
  have hbs : bs X.testBit R = X := by
    apply Nat.eq_of_testBit_eq
    intro i
    rw [bs_tb]
    cases hx : X.testBit i
    · rw [Bool.and_false]
    · rw [decide_eq_true (hX i hx)]; rfl
  unfold f_X5_keep f_X5_keep_61
  simp (disch := omega) only [qz_i0, qz_i1, qz_i2, qz_i3, qz_i4, qz_i5, qz_i6, qz_i7, qz_i8, qz_i9, qz_i24, qz_i27, qz_i31, qz_i60, qz_i61, qz_i100, qz_i101, qz_i50000, qz_i100000, ql_i0, ql_i1, ql_i63, ql_m1, qz_m1, qz_le, qz_lt, qz_eq, qz_add, qz_mul, qz_sub, qz_an, qz_ix, qz_and, qz_or, qz_shl, qz_shr, qz_andn, ql_eq, ql_and, ql_or, ql_shl, ql_shr, ql_andn, ql_of, qz_k31, qz_k63, qz_bit, qz_b0, qz_b1, ql_b0, ql_b1, lg_0, qz_gd, Nat.one_shiftLeft, aI_ap, aL_ap, upd_aI, upd_aL, aV_ap, upd_aV, upd_aVm]
  by_cases hf : fo < 100
  · rw [if_neg (by omega), if_pos hf]
    have k0 := key R 0 1000000 (by omega) (by omega) hf
    rw [hbs] at k0
    exact k0
  · rw [if_pos (by omega), if_neg hf]
def ob : Option Nat → Nat
  | none => 0
  | some c => c + 1
theorem oI_ob (o : Option Nat) : oI o = lvI (ob o) := by cases o <;> rfl
theorem comeA_none {nd : Nat} {rows ch fr uc un ke : Nat → Nat} {no fo l : Nat} (h : no + 1 < 50000) (hq : (bestF (uc l).testBit (fun c => pc (rows c &&& fr l) 64) nd).1 = none) :
    comeA nd rows ch fr uc no fo un ke l = (no + 1, fo + 1, updN un l 0, if fo < 100 then updN ke fo (ch l) else ke) := by
  unfold comeA; rw [if_pos h, hq]
theorem comeA_some {nd : Nat} {rows ch fr uc un ke : Nat → Nat} {no fo l c : Nat} (h : no + 1 < 50000) (hq : (bestF (uc l).testBit (fun c => pc (rows c &&& fr l) 64) nd).1 = some c) :
    comeA nd rows ch fr uc no fo un ke l = (no + 1, fo, updN un l (fr l &&& rows c), ke) := by
  unfold comeA; rw [if_pos h, hq]
theorem comeA_end {nd : Nat} {rows ch fr uc un ke : Nat → Nat} {no fo l : Nat} (h : ¬ no + 1 < 50000) :
    comeA nd rows ch fr uc no fo un ke l = (no + 1, fo, updN un l 0, ke) := by
  unfold comeA; rw [if_neg h]
/-- arrive, where the node's parts are those of the class's search -/
theorem qv_arrive {n nd R : Nat} {tm bt cl ic cn co ba cm nx : Nat → Nat} {ch fr uc un ke : Nat → Nat} {no fo l most : Nat} {sp : Int32} (hT : TB n nd R tm bt cl) (hs : semL nd R (duF nd tm) (roF R bt) bt (csF n nd R bt cl) (ch l) (fr l) 0 (uc l) l) (h : relC n nd R bt cl (ch l) ic cn co) (hF : relF n nd R tm bt cl ba (ch l) (fr l)) (hba : ∀ j, j < 60 → ba j ≤ 61) (hl : l < 73) (hno : no < 50000) (hfo : fo ≤ no) (hmost : most < 2147483648) :
    f_X5_arrive (nI n) (nI nd) (nI R) (nI l) (aI tm) (aI bt) (aI cl) (aI ic) (aV ba) (aI cn) (aI co) (nI no) (nI fo) sp (aV cm) (aI nx) (aL ke) (nI most)
      = some (nI (decide (no + 1 < 50000 ∧ (comeA nd (roF R bt) ch fr uc no fo un ke l).2.1 < most)).toNat, nI (no + 1), nI (comeA nd (roF R bt) ch fr uc no fo un ke l).2.1, (if no + 1 = 50000 then nI 1 else sp),
          aV (if no + 1 = 50000 then cm else updN cm l (ob (bestF (uc l).testBit (fun c => pc (roF R bt c &&& fr l) 64) nd).1)), aI (if no + 1 = 50000 then nx else updN nx l 0), aL (comeA nd (roF R bt) ch fr uc no fo un ke l).2.2.2) := by
  obtain ⟨s1, s2, s3, s4, s5, s6⟩ := hs
  have hX : ∀ o, (ch l).testBit o = true → o < R := fun o ho => (s6.1 o ho).1
  have hb : bestF (fun c => decide (cn c ≠ tm c)) (fun c => pc (roF R bt c &&& fr l) 64) nd = bestF (uc l).testBit (fun c => pc (roF R bt c &&& fr l) 64) nd := by
    apply bestF_congr
    · intro c hc
      have hn := hT.2.2.1
      rw [s1 c, decide_eq_true hc, Bool.true_and, h.2.1 c (by omega)]
      have a := s6.2.2 c hc
      unfold duF at a ⊢
      rw [if_pos hc] at a ⊢
      exact decide_eq_decide.2 ⟨fun q => by omega, fun q => by omega⟩
    · intro c hc _; rfl
  have hbl := bestF_lt (uc l).testBit (fun c => pc (roF R bt c &&& fr l) 64) nd
  by_cases h5 : no + 1 = 50000
  · rw [comeA_end (by omega)]
    unfold f_X5_arrive
    rw [qz_i1, qz_add]
    rw [if_pos (show nI (no + 1) = (50000 : Int32) by rw [h5]; rfl), if_pos h5, if_pos h5, if_pos h5, decide_eq_false (fun a => by omega)]
    rfl
  · unfold f_X5_arrive f_X5_arrive_66 f_X5_arrive_79
    rw [qv_best hT hX h hF hba, hb, Option.bind_some, qv_keep hT.2.2.2.1 hX h (by omega), Option.bind_some]
    rw [if_neg h5, if_neg h5, if_neg h5]
    cases hq : (bestF (uc l).testBit (fun c => pc (roF R bt c &&& fr l) 64) nd).1 with
    | none =>
      rw [comeA_none (by omega) hq]
      simp (disch := omega) only [qz_i0, qz_i1, qz_i2, qz_i3, qz_i4, qz_i5, qz_i6, qz_i7, qz_i8, qz_i9, qz_i24, qz_i27, qz_i31, qz_i60, qz_i61, qz_i100, qz_i101, qz_i50000, qz_i100000, ql_i0, ql_i1, ql_i63, ql_m1, qz_m1, qz_le, qz_lt, qz_eq, qz_add, qz_mul, qz_sub, qz_an, qz_ix, qz_and, qz_or, qz_shl, qz_shr, qz_andn, ql_eq, ql_and, ql_or, ql_shl, ql_shr, ql_andn, ql_of, qz_k31, qz_k63, qz_bit, qz_b0, qz_b1, ql_b0, ql_b1, lg_0, qz_gd, Nat.one_shiftLeft, aI_ap, aL_ap, upd_aI, upd_aL, aV_ap, upd_aV, upd_aVm, oI_ob, ob, updN_s, qv_lv]
      rw [if_neg h5, if_neg (fun a => a rfl)]
      by_cases hm : most ≤ fo + 1
      · rw [if_pos hm, if_neg (by decide), decide_eq_false (fun a => by omega)]; rfl
      · rw [if_neg hm, if_neg (by decide), decide_eq_true ⟨by omega, by omega⟩]; rfl
    | some c =>
      have hc := (hbl.2 c hq).1
      have := hT.2.1
      have := hT.2.2.1
      rw [comeA_some (by omega) hq]
      simp (disch := omega) only [qz_i0, qz_i1, qz_i2, qz_i3, qz_i4, qz_i5, qz_i6, qz_i7, qz_i8, qz_i9, qz_i24, qz_i27, qz_i31, qz_i60, qz_i61, qz_i100, qz_i101, qz_i50000, qz_i100000, ql_i0, ql_i1, ql_i63, ql_m1, qz_m1, qz_le, qz_lt, qz_eq, qz_add, qz_mul, qz_sub, qz_an, qz_ix, qz_and, qz_or, qz_shl, qz_shr, qz_andn, ql_eq, ql_and, ql_or, ql_shl, ql_shr, ql_andn, ql_of, qz_k31, qz_k63, qz_bit, qz_b0, qz_b1, ql_b0, ql_b1, lg_0, qz_gd, Nat.one_shiftLeft, aI_ap, aL_ap, upd_aI, upd_aL, aV_ap, upd_aV, upd_aVm, oI_ob, ob, updN_s, qv_lv]
      rw [if_neg h5, if_pos (by omega)]
      by_cases hm : most ≤ fo
      · rw [if_pos hm, if_neg (by decide), decide_eq_false (fun a => by omega)]; rfl
      · rw [if_neg hm, if_neg (by decide), decide_eq_true ⟨by omega, by omega⟩]; rfl
