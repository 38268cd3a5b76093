-- the class's Table: what its loops answer
theorem qz_bss (P : Nat → Bool) (k : Nat) : bs P (k + 1) = bs P k ||| (if P k then 2 ^ k else 0) := rfl
theorem qt_fuel {m g : Nat} (h : m < g) : ∃ q, g = q + 1 ∧ m ≤ q := ⟨g - 1, by omega, by omega⟩
theorem qt_isNeeded {nd c : Nat} (hn : nd < 2147483648) (hc : c < 2147483648) : f_X2_isNeeded (nI nd) (nI c) = some (nI (decide (c < nd)).toNat, ()) := by
  unfold f_X2_isNeeded f_X2_isNeeded_13
  simp only [qz_le hn hc]
  by_cases h : c < nd
  · rw [if_neg (by omega), if_neg (by decide), decide_eq_true h]; rfl
  · rw [if_pos (by omega), if_neg (by decide), decide_eq_false h]; rfl
def unP (due rows : Nat → Nat) (cols ch : Nat) (c : Nat) : Bool := cols.testBit c && decide (pc (rows c &&& ch) 64 < due c)
theorem qt_unc {nd : Nat} {due rows : Nat → Nat} {vdue : Nat → Int32} {vro : Nat → Int64} {cols ch : Nat} (hnd : nd ≤ 24) (hd : ∀ c, vdue c = nI (due c)) (hr : ∀ c, vro c = lN (rows c))
    (hdb : ∀ c, due c < 2147483648) (hrb : ∀ c, rows c < 2 ^ 60) (hcols : cols < 2147483648) :
    ∀ m k g, k + m = nd → m < g → f_X2_uncovered_6 (nI nd) vdue vro g (nI cols) (lN ch) (nI (bs (unP due rows cols ch) k)) (nI k) = some (nI (bs (unP due rows cols ch) nd), ()) := by
  intro m
  induction m with
  | zero =>
    intro k g hk hg
    obtain ⟨q, rfl, hq⟩ := qt_fuel hg
    have e : k = nd := by omega
    subst e
    simp only [f_X2_uncovered_6]
    rw [if_pos (Int32.le_refl _)]
  | succ m ih =>
    intro k g hk hg
    obtain ⟨q, rfl, hq⟩ := qt_fuel hg
    have hstep := ih (k + 1) q (by omega) (by omega)
    have hpc : pc (rows k &&& ch) 64 ≤ 64 := pc_le _ _
    have hdk := hdb k
    have hb : rows k &&& ch < 18446744073709551616 := Nat.lt_of_le_of_lt Nat.and_le_left (Nat.lt_trans (hrb k) (by decide))
    simp only [f_X2_uncovered_6, f_X2_uncovered_55]
    simp (disch := omega) only [qz_i0, qz_i1, qz_i2, qz_i3, qz_i4, qz_i5, qz_i6, qz_i7, qz_i8, qz_i9, qz_i24, qz_i27, qz_i31, qz_i60, qz_i61, qz_i100, qz_i101, qz_i50000, qz_i100000, ql_i0, ql_i1, ql_i63, ql_m1, qz_m1, qz_le, qz_lt, qz_eq, qz_add, qz_mul, qz_sub, qz_an, qz_ix, qz_and, qz_or, qz_shl, qz_shr, qz_andn, ql_eq, ql_and, ql_or, ql_shl, ql_shr, ql_andn, ql_of, qz_k31, qz_k63, qz_bit, qz_b0, qz_b1, ql_b0, ql_b1, lg_0, qz_gd, Nat.one_shiftLeft, aI_ap, aL_ap, upd_aI, upd_aL, aV_ap, upd_aV, upd_aVm, hr, hd, qp_L _ hb, Option.bind_some]
    rw [if_neg (by omega)]
    rw [qz_bss] at hstep
    by_cases h1 : cols.testBit k
    · by_cases h2 : pc (rows k &&& ch) 64 < due k
      · have e : unP due rows cols ch k = true := by unfold unP; rw [h1, decide_eq_true h2]; rfl
        rw [e, if_pos rfl] at hstep
        rw [if_neg (by rw [h1]; decide), if_neg (by omega)]
        exact hstep
      · have e : unP due rows cols ch k = false := by unfold unP; rw [decide_eq_false h2, Bool.and_false]
        rw [e, if_neg (by decide), Nat.or_zero] at hstep
        rw [if_neg (by rw [h1]; decide), if_pos (by omega)]
        exact hstep
    · have h1' : cols.testBit k = false := by simpa using h1
      have e : unP due rows cols ch k = false := by unfold unP; rw [h1', Bool.false_and]
      rw [e, if_neg (by decide), Nat.or_zero] at hstep
      rw [if_pos h1']
      exact hstep
theorem qt_uncovered {nd : Nat} {due rows : Nat → Nat} {vdue : Nat → Int32} {vro : Nat → Int64} {cols ch : Nat} (hnd : nd ≤ 24) (hd : ∀ c, vdue c = nI (due c)) (hr : ∀ c, vro c = lN (rows c))
    (hdb : ∀ c, due c < 2147483648) (hrb : ∀ c, rows c < 2 ^ 60) (hcols : cols < 2147483648) :
    f_X2_uncovered (nI nd) vdue vro (nI cols) (lN ch) = some (nI (bs (unP due rows cols ch) nd), ()) :=
  qt_unc hnd hd hr hdb hrb hcols nd 0 1000000 (by omega) (by omega)
def rwa (rows : Nat → Nat) (cols : Nat) : Nat → Nat
  | 0 => 0
  | k + 1 => rwa rows cols k ||| (if cols.testBit k then rows k else 0)
theorem rwa_lt {rows : Nat → Nat} (hrb : ∀ c, rows c < 2 ^ 60) (cols : Nat) : ∀ k, rwa rows cols k < 2 ^ 60
  | 0 => by rw [rwa]; decide
  | k + 1 => by
    rw [rwa]
    refine Nat.or_lt_two_pow (rwa_lt hrb cols k) ?_
    by_cases h : cols.testBit k
    · rw [if_pos h]; exact hrb k
    · rw [if_neg h]; decide
theorem rwa_tb (rows : Nat → Nat) (cols r : Nat) : ∀ k, (rwa rows cols k).testBit r = decide (∃ c, c < k ∧ cols.testBit c = true ∧ (rows c).testBit r = true)
  | 0 => by rw [rwa, Nat.zero_testBit]; exact (decide_eq_false (by rintro ⟨c, h, _⟩; omega)).symm
  | k + 1 => by
    rw [rwa, Nat.testBit_or, rwa_tb rows cols r k]
    rw [Bool.eq_iff_iff, Bool.or_eq_true, decide_eq_true_iff, decide_eq_true_iff]
    constructor
    · rintro (⟨c, h1, h2, h3⟩ | h)
      · exact ⟨c, by omega, h2, h3⟩
      · by_cases hc : cols.testBit k
        · rw [if_pos hc] at h; exact ⟨k, by omega, hc, h⟩
        · rw [if_neg hc, Nat.zero_testBit] at h; cases h
    · rintro ⟨c, h1, h2, h3⟩
      by_cases hc : c = k
      · subst hc; right; rw [if_pos h2]; exact h3
      · left; exact ⟨c, by omega, h2, h3⟩
theorem qt_rwa {n : Nat} {rows : Nat → Nat} {vro : Nat → Int64} {cols : Nat} (hn : n ≤ 24) (hr : ∀ c, vro c = lN (rows c)) (hcols : cols < 2147483648) :
    ∀ m k g, k + m = n → m < g → f_X2_rowsWithAny_5 (nI n) vro g (nI cols) (lN (rwa rows cols k)) (nI k) = some (lN (rwa rows cols n), ()) := by
  intro m
  induction m with
  | zero =>
    intro k g hk hg
    obtain ⟨q, rfl, hq⟩ := qt_fuel hg
    have e : k = n := by omega
    subst e
    simp only [f_X2_rowsWithAny_5]
    rw [if_pos (Int32.le_refl _)]
  | succ m ih =>
    intro k g hk hg
    obtain ⟨q, rfl, hq⟩ := qt_fuel hg
    have hstep := ih (k + 1) q (by omega) (by omega)
    simp only [f_X2_rowsWithAny_5, f_X2_rowsWithAny_33]
    simp (disch := omega) only [qz_i0, qz_i1, qz_i2, qz_i3, qz_i4, qz_i5, qz_i6, qz_i7, qz_i8, qz_i9, qz_i24, qz_i27, qz_i31, qz_i60, qz_i61, qz_i100, qz_i101, qz_i50000, qz_i100000, ql_i0, ql_i1, ql_i63, ql_m1, qz_m1, qz_le, qz_lt, qz_eq, qz_add, qz_mul, qz_sub, qz_an, qz_ix, qz_and, qz_or, qz_shl, qz_shr, qz_andn, ql_eq, ql_and, ql_or, ql_shl, ql_shr, ql_andn, ql_of, qz_k31, qz_k63, qz_bit, qz_b0, qz_b1, ql_b0, ql_b1, lg_0, qz_gd, Nat.one_shiftLeft, aI_ap, aL_ap, upd_aI, upd_aL, aV_ap, upd_aV, upd_aVm, hr]
    rw [if_neg (by omega)]
    rw [rwa] at hstep
    by_cases h1 : cols.testBit k
    · rw [if_pos h1] at hstep
      rw [if_neg (by rw [h1]; decide)]
      exact hstep
    · have h1' : cols.testBit k = false := by simpa using h1
      rw [if_neg h1, Nat.or_zero] at hstep
      rw [if_pos h1']
      exact hstep
theorem qt_rowsWithAny {n : Nat} {rows : Nat → Nat} {vro : Nat → Int64} {cols : Nat} (hn : n ≤ 24) (hr : ∀ c, vro c = lN (rows c)) (hcols : cols < 2147483648) :
    f_X2_rowsWithAny (nI n) vro (nI cols) = some (lN (rwa rows cols n), ()) :=
  qt_rwa hn hr hcols n 0 1000000 (by omega) (by omega)
def fitL (cs : Nat → Nat) (ch base : Nat) : Nat → Nat
  | 0 => base
  | k + 1 => if cs k &&& ch = 0 then fitL cs ch base k else bdf (fitL cs ch base k) (2 ^ k)
theorem fitL_le (cs : Nat → Nat) (ch base : Nat) : ∀ k, fitL cs ch base k ≤ base
  | 0 => Nat.le_refl _
  | k + 1 => by
    rw [fitL]
    by_cases h : cs k &&& ch = 0
    · rw [if_pos h]; exact fitL_le cs ch base k
    · rw [if_neg h]; exact Nat.le_trans (bdf_le _ _) (fitL_le cs ch base k)
theorem fitL_tb (cs : Nat → Nat) (ch base r : Nat) : ∀ k, (fitL cs ch base k).testBit r = (base.testBit r && decide (r < k → cs r &&& ch = 0))
  | 0 => by rw [fitL, decide_eq_true (by intro h; omega), Bool.and_true]
  | k + 1 => by
    rw [fitL]
    by_cases h : cs k &&& ch = 0
    · rw [if_pos h, fitL_tb cs ch base r k]
      congr 1
      apply decide_eq_decide.2
      constructor
      · intro a b
        by_cases e : r = k
        · rw [e]; exact h
        · exact a (by omega)
      · intro a b; exact a (by omega)
    · rw [if_neg h, bdf_tb, fitL_tb cs ch base r k, Nat.testBit_two_pow]
      by_cases e : k = r
      · subst e
        rw [decide_eq_true rfl, decide_eq_false (p := k < k + 1 → cs k &&& ch = 0) (fun a => h (a (by omega)))]
        simp
      · rw [decide_eq_false (p := k = r) e, Bool.not_false, Bool.and_true]
        congr 1
        apply decide_eq_decide.2
        constructor
        · intro a b; exact a (by omega)
        · intro a b; exact a (by omega)
theorem qt_fitL {y1 y2 : Int32} {vdue : Nat → Int32} {vro : Nat → Int64} {R : Nat} {cs : Nat → Nat} {vcs : Nat → Int64} {ch base : Nat} (hR : R ≤ 60) (hr : ∀ c, vcs c = lN (cs c)) (hcb : ∀ c, cs c < 2 ^ 60) :
    ∀ m k g, k + m = R → m < g → f_X2_fitting_44 y1 y2 (nI R) vdue vro vcs g (lN ch) (lN (fitL cs ch base k)) (nI k) = some (lN (fitL cs ch base R), ()) := by
  intro m
  induction m with
  | zero =>
    intro k g hk hg
    obtain ⟨q, rfl, hq⟩ := qt_fuel hg
    have e : k = R := by omega
    subst e
    simp only [f_X2_fitting_44]
    rw [if_pos (Int32.le_refl _)]
  | succ m ih =>
    intro k g hk hg
    obtain ⟨q, rfl, hq⟩ := qt_fuel hg
    have hstep := ih (k + 1) q (by omega) (by omega)
    have hb : cs k &&& ch < 18446744073709551616 := Nat.lt_of_le_of_lt Nat.and_le_left (Nat.lt_trans (hcb k) (by decide))
    simp only [f_X2_fitting_44, f_X2_fitting_80]
    simp (disch := omega) only [qz_i0, qz_i1, qz_i2, qz_i3, qz_i4, qz_i5, qz_i6, qz_i7, qz_i8, qz_i9, qz_i24, qz_i27, qz_i31, qz_i60, qz_i61, qz_i100, qz_i101, qz_i50000, qz_i100000, ql_i0, ql_i1, ql_i63, ql_m1, qz_m1, qz_le, qz_lt, qz_eq, qz_add, qz_mul, qz_sub, qz_an, qz_ix, qz_and, qz_or, qz_shl, qz_shr, qz_andn, ql_eq, ql_and, ql_or, ql_shl, ql_shr, ql_andn, ql_of, qz_k31, qz_k63, qz_bit, qz_b0, qz_b1, ql_b0, ql_b1, lg_0, qz_gd, Nat.one_shiftLeft, aI_ap, aL_ap, upd_aI, upd_aL, aV_ap, upd_aV, upd_aVm, hr]
    rw [if_neg (by omega)]
    rw [fitL] at hstep
    by_cases h1 : cs k &&& ch = 0
    · rw [if_pos h1] at hstep
      rw [if_pos h1]
      exact hstep
    · rw [if_neg h1] at hstep
      rw [if_neg h1]
      exact hstep
theorem qt_needed {nd : Nat} (h : nd ≤ 24) : f_X2_neededColumns (nI nd) = some (nI (2 ^ nd - 1), ()) := by
  have hp : 1 ≤ 2 ^ nd := Nat.two_pow_pos nd
  unfold f_X2_neededColumns
  simp (disch := omega) only [qz_i0, qz_i1, qz_i2, qz_i3, qz_i4, qz_i5, qz_i6, qz_i7, qz_i8, qz_i9, qz_i24, qz_i27, qz_i31, qz_i60, qz_i61, qz_i100, qz_i101, qz_i50000, qz_i100000, ql_i0, ql_i1, ql_i63, ql_m1, qz_m1, qz_le, qz_lt, qz_eq, qz_add, qz_mul, qz_sub, qz_an, qz_ix, qz_and, qz_or, qz_shl, qz_shr, qz_andn, ql_eq, ql_and, ql_or, ql_shl, ql_shr, ql_andn, ql_of, qz_k31, qz_k63, qz_bit, qz_b0, qz_b1, ql_b0, ql_b1, lg_0, qz_gd, Nat.one_shiftLeft, aI_ap, aL_ap, upd_aI, upd_aL, aV_ap, upd_aV, upd_aVm]
def fitA (n nd R : Nat) (due rows cs : Nat → Nat) (ch : Nat) : Nat :=
  fitL cs ch (bdf (bdf (rwa rows (2 ^ nd - 1) n) ch) (rwa rows (bdf (2 ^ nd - 1) (bs (unP due rows (2 ^ nd - 1) ch) nd)) n)) R
theorem qt_p24 {k : Nat} (h : k ≤ 24) : 2 ^ k ≤ 16777216 := Nat.pow_le_pow_right (by decide) h
theorem qt_fitting {n nd R : Nat} {due rows cs : Nat → Nat} {vdue : Nat → Int32} {vro vcs : Nat → Int64} {ch : Nat} (hn : n ≤ 24) (hnd : nd ≤ n) (hR : R ≤ 60) (hd : ∀ c, vdue c = nI (due c)) (hr : ∀ c, vro c = lN (rows c)) (hc : ∀ c, vcs c = lN (cs c))
    (hdb : ∀ c, due c < 2147483648) (hrb : ∀ c, rows c < 2 ^ 60) (hcb : ∀ c, cs c < 2 ^ 60) :
    f_X2_fitting (nI n) (nI nd) (nI R) vdue vro vcs (lN ch) = some (lN (fitA n nd R due rows cs ch), ()) := by
  have h24 := qt_p24 (k := nd) (by omega)
  have hx : 2 ^ nd - 1 < 2147483648 := by omega
  have hle := bdf_le (2 ^ nd - 1) (bs (unP due rows (2 ^ nd - 1) ch) nd)
  unfold f_X2_fitting
  rw [qt_needed (by omega), Option.bind_some, qt_uncovered (by omega) hd hr hdb hrb hx, Option.bind_some, qt_rowsWithAny hn hr hx, Option.bind_some]
  rw [qz_i1, qz_m1, qz_andn, qt_rowsWithAny hn hr (by omega), Option.bind_some, ql_i1, ql_m1, ql_m1, ql_andn, ql_andn]
  exact qt_fitL hR hc hcb R 0 1000000 (by omega) (by omega)
def oI : Option Nat → Int32
  | none => -1
  | some c => nI c
def bestF (cond : Nat → Bool) (val : Nat → Nat) : Nat → Option Nat × Nat
  | 0 => (none, 61)
  | k + 1 => if cond k = true ∧ val k < (bestF cond val k).2 then (some k, val k) else bestF cond val k
theorem bestF_lt (cond : Nat → Bool) (val : Nat → Nat) : ∀ k, (bestF cond val k).2 ≤ 61 ∧ ∀ c, (bestF cond val k).1 = some c → c < k ∧ cond c = true ∧ (bestF cond val k).2 = val c
  | 0 => ⟨Nat.le_refl _, fun c h => by cases h⟩
  | k + 1 => by
    rw [bestF]
    have ih := bestF_lt cond val k
    by_cases h : cond k = true ∧ val k < (bestF cond val k).2
    · rw [if_pos h]
      exact ⟨by show val k ≤ 61; omega, fun c hc => by cases hc; exact ⟨by omega, h.1, rfl⟩⟩
    · rw [if_neg h]
      exact ⟨ih.1, fun c hc => ⟨by have := (ih.2 c hc).1; omega, (ih.2 c hc).2⟩⟩
theorem bestF_none (cond : Nat → Bool) (val : Nat → Nat) (hv : ∀ c, val c ≤ 60) : ∀ k, (bestF cond val k).1 = none → (bestF cond val k).2 = 61 ∧ ∀ c, c < k → cond c = false
  | 0 => fun _ => ⟨rfl, fun c h => by omega⟩
  | k + 1 => by
    rw [bestF]
    have ih := bestF_none cond val hv k
    by_cases h : cond k = true ∧ val k < (bestF cond val k).2
    · rw [if_pos h]; intro a; cases a
    · rw [if_neg h]
      intro a
      have ih2 := ih a
      refine ⟨ih2.1, fun c hc => ?_⟩
      by_cases e : c = k
      · subst e
        have hvc := hv c
        rw [ih2.1] at h
        cases hcond : cond c
        · rfl
        · exact absurd ⟨hcond, by omega⟩ h
      · exact ih2.2 c (by omega)
theorem bestF_congr {c1 c2 : Nat → Bool} {v1 v2 : Nat → Nat} : ∀ k, (∀ j, j < k → c1 j = c2 j) → (∀ j, j < k → c1 j = true → v1 j = v2 j) → bestF c1 v1 k = bestF c2 v2 k
  | 0, _, _ => rfl
  | k + 1, hc, hv => by
    rw [bestF, bestF, bestF_congr k (fun j h => hc j (by omega)) (fun j h => hv j (by omega)), ← hc k (by omega)]
    cases h : c1 k
    · simp
    · rw [hv k (by omega) h]
theorem qt_cof {nd : Nat} {rows : Nat → Nat} {vro : Nat → Int64} {cols fr : Nat} (hnd : nd ≤ 24) (hr : ∀ c, vro c = lN (rows c)) (hrb : ∀ c, rows c < 2 ^ 60) (hcols : cols < 2147483648) :
    ∀ m k g, k + m = nd → m < g → f_X2_columnOfFewest_10 (nI nd) vro g (nI cols) (lN fr) (oI (bestF cols.testBit (fun c => pc (rows c &&& fr) 64) k).1) (nI (bestF cols.testBit (fun c => pc (rows c &&& fr) 64) k).2) (nI k)
      = some (oI (bestF cols.testBit (fun c => pc (rows c &&& fr) 64) nd).1, ()) := by
  intro m
  induction m with
  | zero =>
    intro k g hk hg
    obtain ⟨q, rfl, hq⟩ := qt_fuel hg
    have e : k = nd := by omega
    subst e
    simp only [f_X2_columnOfFewest_10]
    rw [if_pos (Int32.le_refl _)]
  | succ m ih =>
    intro k g hk hg
    obtain ⟨q, rfl, hq⟩ := qt_fuel hg
    have hstep := ih (k + 1) q (by omega) (by omega)
    have hpc : pc (rows k &&& fr) 64 ≤ 64 := pc_le _ _
    have hb : rows k &&& fr < 18446744073709551616 := Nat.lt_of_le_of_lt Nat.and_le_left (Nat.lt_trans (hrb k) (by decide))
    have hl := (bestF_lt cols.testBit (fun c => pc (rows c &&& fr) 64) k).1
    simp only [f_X2_columnOfFewest_10, f_X2_columnOfFewest_57]
    simp (disch := omega) only [qz_i0, qz_i1, qz_i2, qz_i3, qz_i4, qz_i5, qz_i6, qz_i7, qz_i8, qz_i9, qz_i24, qz_i27, qz_i31, qz_i60, qz_i61, qz_i100, qz_i101, qz_i50000, qz_i100000, ql_i0, ql_i1, ql_i63, ql_m1, qz_m1, qz_le, qz_lt, qz_eq, qz_add, qz_mul, qz_sub, qz_an, qz_ix, qz_and, qz_or, qz_shl, qz_shr, qz_andn, ql_eq, ql_and, ql_or, ql_shl, ql_shr, ql_andn, ql_of, qz_k31, qz_k63, qz_bit, qz_b0, qz_b1, ql_b0, ql_b1, lg_0, qz_gd, Nat.one_shiftLeft, aI_ap, aL_ap, upd_aI, upd_aL, aV_ap, upd_aV, upd_aVm, hr, qp_L _ hb, Option.bind_some]
    rw [if_neg (by omega)]
    rw [bestF] at hstep
    by_cases h1 : cols.testBit k
    · by_cases h2 : pc (rows k &&& fr) 64 < (bestF cols.testBit (fun c => pc (rows c &&& fr) 64) k).2
      · rw [if_pos ⟨h1, h2⟩] at hstep
        rw [if_neg (by rw [h1]; decide), if_neg (by omega)]
        exact hstep
      · rw [if_neg (fun c => h2 c.2)] at hstep
        rw [if_neg (by rw [h1]; decide), if_pos (by omega)]
        exact hstep
    · have h1' : cols.testBit k = false := by simpa using h1
      rw [if_neg (fun c => h1 c.1)] at hstep
      rw [if_pos h1']
      exact hstep
theorem qt_columnOfFewest {nd : Nat} {rows : Nat → Nat} {vro : Nat → Int64} {cols fr : Nat} (hnd : nd ≤ 24) (hr : ∀ c, vro c = lN (rows c)) (hrb : ∀ c, rows c < 2 ^ 60) (hcols : cols < 2147483648) :
    f_X2_columnOfFewest (nI nd) vro (nI cols) (lN fr) = some (oI (bestF cols.testBit (fun c => pc (rows c &&& fr) 64) nd).1, ()) :=
  qt_cof hnd hr hrb hcols nd 0 1000000 (by omega) (by omega)
