-- THE SEARCH as the class does it, over numbers
def lowb (x : Nat) : Nat → Nat → Nat
  | 0, k => k
  | m + 1, k => if x.testBit k then k else lowb x m (k + 1)
theorem lowb_eq {x r : Nat} (hr : x.testBit r = true) (hl : ∀ i, i < r → x.testBit i = false) : ∀ m k, k ≤ r → r < k + m → lowb x m k = r
  | 0, k, h1, h2 => by omega
  | m + 1, k, h1, h2 => by
    rw [lowb]
    by_cases e : k = r
    · subst e; rw [if_pos hr]
    · rw [if_neg (by rw [hl k (by omega)]; decide)]
      exact lowb_eq hr hl m (k + 1) (by omega) (by omega)
def comeA (nd : Nat) (rows ch fr uc : Nat → Nat) (no fo : Nat) (un ke : Nat → Nat) (l : Nat) : Nat × Nat × (Nat → Nat) × (Nat → Nat) :=
  if no + 1 < 50000 then
    match (bestF (uc l).testBit (fun c => pc (rows c &&& fr l) 64) nd).1 with
    | some c => (no + 1, fo, updN un l (fr l &&& rows c), ke)
    | none => (no + 1, fo + 1, updN un l 0, if fo < 100 then updN ke fo (ch l) else ke)
  else (no + 1, fo, updN un l 0, ke)
theorem qs_comeTo {nd : Nat} {rows ch fr uc un ke : Nat → Nat} {no fo l : Nat} (hnd : nd ≤ 24) (hrb : ∀ c, rows c < 2 ^ 60) (hl : l < 61) (hno : no < 50000) (hfo : fo < 1000000) (huc : uc l < 2147483648) :
    f_X1_comeTo (nI nd) (aL rows) (aL ch) (aL fr) (aI uc) (nI no) (nI fo) (aL un) (aL ke) (nI l) = some (nI (comeA nd rows ch fr uc no fo un ke l).1, nI (comeA nd rows ch fr uc no fo un ke l).2.1, aL (comeA nd rows ch fr uc no fo un ke l).2.2.1, aL (comeA nd rows ch fr uc no fo un ke l).2.2.2) := by
  unfold f_X1_comeTo f_X1_comeTo_86
  simp (disch := omega) only [qz_i0, qz_i1, qz_i2, qz_i3, qz_i4, qz_i5, qz_i6, qz_i7, qz_i8, qz_i9, qz_i24, qz_i27, qz_i31, qz_i60, qz_i61, qz_i100, qz_i101, qz_i50000, qz_i100000, ql_i0, ql_i1, ql_i63, ql_m1, qz_m1, qz_le, qz_lt, qz_eq, qz_add, qz_mul, qz_sub, qz_an, qz_ix, qz_and, qz_or, qz_shl, qz_shr, qz_andn, ql_eq, ql_and, ql_or, ql_shl, ql_shr, ql_andn, ql_of, qz_k31, qz_k63, qz_bit, qz_b0, qz_b1, ql_b0, ql_b1, lg_0, qz_gd, Nat.one_shiftLeft, aI_ap, aL_ap, upd_aI, upd_aL, aV_ap, upd_aV, upd_aVm, qt_columnOfFewest hnd (aL_ap rows) hrb huc, Option.bind_some]
  unfold comeA
  by_cases h : no + 1 < 50000
  · rw [if_pos h, if_pos h]
    have hb := bestF_lt (uc l).testBit (fun c => pc (rows c &&& fr l) 64) nd
    cases hq : (bestF (uc l).testBit (fun c => pc (rows c &&& fr l) 64) nd).1 with
    | none =>
      rw [if_neg (show ¬ nI 0 ≤ oI none by decide)]
      unfold f_X1_keepWay f_X1_keepWay_19
      simp (disch := omega) only [qz_i0, qz_i1, qz_i2, qz_i3, qz_i4, qz_i5, qz_i6, qz_i7, qz_i8, qz_i9, qz_i24, qz_i27, qz_i31, qz_i60, qz_i61, qz_i100, qz_i101, qz_i50000, qz_i100000, ql_i0, ql_i1, ql_i63, ql_m1, qz_m1, qz_le, qz_lt, qz_eq, qz_add, qz_mul, qz_sub, qz_an, qz_ix, qz_and, qz_or, qz_shl, qz_shr, qz_andn, ql_eq, ql_and, ql_or, ql_shl, ql_shr, ql_andn, ql_of, qz_k31, qz_k63, qz_bit, qz_b0, qz_b1, ql_b0, ql_b1, lg_0, qz_gd, Nat.one_shiftLeft, aI_ap, aL_ap, upd_aI, upd_aL, aV_ap, upd_aV, upd_aVm]
      by_cases h2 : 100 ≤ fo
      · rw [if_pos h2, if_neg (by omega)]
        rfl
      · rw [if_neg h2, if_pos (by omega)]
        rfl
    | some c =>
      have hc := (hb.2 c hq).1
      show (if nI 0 ≤ nI c then _ else _) = _
      simp (disch := omega) only [qz_i0, qz_i1, qz_i2, qz_i3, qz_i4, qz_i5, qz_i6, qz_i7, qz_i8, qz_i9, qz_i24, qz_i27, qz_i31, qz_i60, qz_i61, qz_i100, qz_i101, qz_i50000, qz_i100000, ql_i0, ql_i1, ql_i63, ql_m1, qz_m1, qz_le, qz_lt, qz_eq, qz_add, qz_mul, qz_sub, qz_an, qz_ix, qz_and, qz_or, qz_shl, qz_shr, qz_andn, ql_eq, ql_and, ql_or, ql_shl, ql_shr, ql_andn, ql_of, qz_k31, qz_k63, qz_bit, qz_b0, qz_b1, ql_b0, ql_b1, lg_0, qz_gd, Nat.one_shiftLeft, aI_ap, aL_ap, upd_aI, upd_aL, aV_ap, upd_aV, upd_aVm, oI, updN_2]
      rw [if_pos (by omega)]
  · rw [if_neg h, if_neg h]
def chN (ch : Nat → Nat) (l r : Nat) : Nat := ch l ||| 2 ^ r
def coN (nd : Nat) (due rows cols ch uc : Nat → Nat) (l r : Nat) : Nat := bdf (uc l &&& cols r) (bs (unP due rows (uc l &&& cols r) (chN ch l r)) nd)
def frN (n nd : Nat) (due rows cols cs ch fr uc : Nat → Nat) (l r : Nat) : Nat := bdf (bdf (bdf (fr l) (2 ^ r)) (cs r)) (rwa rows (coN nd due rows cols ch uc l r) n)
theorem qs_chooseRow {n nd : Nat} {due rows cols cs ch fr uc un : Nat → Nat} {l r : Nat} (hn : n ≤ 24) (hnd : nd ≤ 24) (hdb : ∀ c, due c < 2147483648) (hrb : ∀ c, rows c < 2 ^ 60) (hl : l < 60) (hr : r < 60) (huc : uc l < 2147483648) :
    f_X1_chooseRow (nI n) (nI nd) (aI due) (aI cols) (aL rows) (aL cs) (aL ch) (aL fr) (aL un) (aI uc) (nI l) (nI r)
      = some (aL (updN ch (l + 1) (chN ch l r)), aL (updN (updN fr l (bdf (fr l) (2 ^ r))) (l + 1) (frN n nd due rows cols cs ch fr uc l r)), aL (updN un l (bdf (un l) (2 ^ r))), aI (updN uc (l + 1) (bdf (uc l) (coN nd due rows cols ch uc l r)))) := by
  have h1 : uc l &&& cols r < 2147483648 := Nat.lt_of_le_of_lt Nat.and_le_left huc
  have h2 := bdf_le (uc l &&& cols r) (bs (unP due rows (uc l &&& cols r) (ch l ||| 2 ^ r)) nd)
  unfold f_X1_chooseRow
  simp (disch := omega) only [qz_i0, qz_i1, qz_i2, qz_i3, qz_i4, qz_i5, qz_i6, qz_i7, qz_i8, qz_i9, qz_i24, qz_i27, qz_i31, qz_i60, qz_i61, qz_i100, qz_i101, qz_i50000, qz_i100000, ql_i0, ql_i1, ql_i63, ql_m1, qz_m1, qz_le, qz_lt, qz_eq, qz_add, qz_mul, qz_sub, qz_an, qz_ix, qz_and, qz_or, qz_shl, qz_shr, qz_andn, ql_eq, ql_and, ql_or, ql_shl, ql_shr, ql_andn, ql_of, qz_k31, qz_k63, qz_bit, qz_b0, qz_b1, ql_b0, ql_b1, lg_0, qz_gd, Nat.one_shiftLeft, aI_ap, aL_ap, upd_aI, upd_aL, aV_ap, upd_aV, upd_aVm, qt_uncovered hnd (aI_ap due) (aL_ap rows) hdb hrb h1, Option.bind_some, updN_s]
  rw [qt_rowsWithAny hn (aL_ap rows) (by omega)]
  simp (disch := omega) only [qz_i0, qz_i1, qz_i2, qz_i3, qz_i4, qz_i5, qz_i6, qz_i7, qz_i8, qz_i9, qz_i24, qz_i27, qz_i31, qz_i60, qz_i61, qz_i100, qz_i101, qz_i50000, qz_i100000, ql_i0, ql_i1, ql_i63, ql_m1, qz_m1, qz_le, qz_lt, qz_eq, qz_add, qz_mul, qz_sub, qz_an, qz_ix, qz_and, qz_or, qz_shl, qz_shr, qz_andn, ql_eq, ql_and, ql_or, ql_shl, ql_shr, ql_andn, ql_of, qz_k31, qz_k63, qz_bit, qz_b0, qz_b1, ql_b0, ql_b1, lg_0, qz_gd, Nat.one_shiftLeft, aI_ap, aL_ap, upd_aI, upd_aL, aV_ap, upd_aV, upd_aVm, Option.bind_some]
  rfl
/-- nodes, ways, the stacks, what is kept, the level and one -/
abbrev SS := Nat × Nat × (Nat → Nat) × (Nat → Nat) × (Nat → Nat) × (Nat → Nat) × (Nat → Nat) × Nat
def stpA (n nd : Nat) (due rows cols cs : Nat → Nat) : SS → SS := fun (no, fo, ch, fr, un, uc, ke, lv) =>
  if un (lv - 1) = 0 ∨ 60 ≤ lv - 1 then (no, fo, ch, fr, un, uc, ke, lv - 1)
  else
    (fun (l r : Nat) =>
      (fun (ch' fr' un' uc' : Nat → Nat) =>
        (fun (d : Nat × Nat × (Nat → Nat) × (Nat → Nat)) => (d.1, d.2.1, ch', fr', d.2.2.1, uc', d.2.2.2, l + 2))
          (comeA nd rows ch' fr' uc' no fo un' ke (l + 1)))
        (updN ch (l + 1) (chN ch l r)) (updN (updN fr l (bdf (fr l) (2 ^ r))) (l + 1) (frN n nd due rows cols cs ch fr uc l r)) (updN un l (bdf (un l) (2 ^ r))) (updN uc (l + 1) (bdf (uc l) (coN nd due rows cols ch uc l r))))
      (lv - 1) (lowb (un (lv - 1)) 60 0)
def hltA (most : Nat) (s : SS) : Prop := s.2.2.2.2.2.2.2 = 0 ∨ 50000 ≤ s.1 ∨ most ≤ s.2.1
noncomputable def runA (n nd : Nat) (due rows cols cs : Nat → Nat) (most : Nat) : Nat → SS → SS
  | 0, s => s
  | m + 1, s => @ite _ (hltA most s) (Classical.propDecidable _) s (runA n nd due rows cols cs most m (stpA n nd due rows cols cs s))
def muA (s : SS) : Nat := 2 * (50000 - s.1) + s.2.2.2.2.2.2.2
/-- what the stacks hold is in its bounds, up to the level -/
def boA (s : SS) : Prop := s.1 ≤ 50000 ∧ s.2.1 ≤ s.1 ∧ s.2.2.2.2.2.2.2 ≤ 61 ∧ ∀ j, j < s.2.2.2.2.2.2.2 → s.2.2.2.2.1 j < 2 ^ 60 ∧ s.2.2.2.2.2.1 j < 2 ^ 24 ∧ s.2.2.2.1 j < 2 ^ 60
theorem comeA_lt (nd : Nat) (rows ch fr uc : Nat → Nat) (no fo : Nat) (un ke : Nat → Nat) (l : Nat) (hfr : fr l < 2 ^ 60) :
    (comeA nd rows ch fr uc no fo un ke l).1 = no + 1 ∧ (comeA nd rows ch fr uc no fo un ke l).2.1 ≤ fo + 1 ∧ (comeA nd rows ch fr uc no fo un ke l).2.2.1 l < 2 ^ 60 ∧ ∀ j, j ≠ l → (comeA nd rows ch fr uc no fo un ke l).2.2.1 j = un j := by
  unfold comeA
  by_cases h : no + 1 < 50000
  · rw [if_pos h]
    cases hq : (bestF (uc l).testBit (fun c => pc (rows c &&& fr l) 64) nd).1 with
    | none => exact ⟨rfl, Nat.le_refl _, by show updN un l 0 l < _; rw [updN_s]; decide, fun j hj => updN_n hj⟩
    | some c => exact ⟨rfl, Nat.le_succ _, by show updN un l (fr l &&& rows c) l < _; rw [updN_s]; exact Nat.lt_of_le_of_lt Nat.and_le_left hfr, fun j hj => updN_n hj⟩
  · rw [if_neg h]
    exact ⟨rfl, Nat.le_succ _, by show updN un l 0 l < _; rw [updN_s]; decide, fun j hj => updN_n hj⟩
theorem boA_stp {n nd : Nat} {due rows cols cs : Nat → Nat} {most : Nat} {s : SS} (hb : boA s) (hh : ¬ hltA most s) :
    boA (stpA n nd due rows cols cs s) ∧ muA (stpA n nd due rows cols cs s) + 1 = muA s := by
  obtain ⟨no, fo, ch, fr, un, uc, ke, lv⟩ := s
  obtain ⟨h1, h2, h3, h4⟩ := hb
  unfold hltA at hh
  simp only at h1 h2 h3 h4 hh
  simp only [not_or, Nat.not_le] at hh
  have hlv : ∃ l, lv = l + 1 := ⟨lv - 1, by omega⟩
  obtain ⟨l, rfl⟩ := hlv
  unfold stpA
  simp only [Nat.add_sub_cancel]
  by_cases hq : un l = 0 ∨ 60 ≤ l
  · rw [if_pos hq]
    refine ⟨⟨h1, h2, by show l ≤ 61; omega, fun j hj => h4 j (by have : j < l := hj; omega)⟩, ?_⟩
    show 2 * (50000 - no) + l + 1 = 2 * (50000 - no) + (l + 1)
    omega
  · rw [if_neg hq]
    simp only [not_or, Nat.not_le] at hq
    have hl := h4 l (by omega)
    have hfr' : frN n nd due rows cols cs ch fr uc l (lowb (un l) 60 0) < 2 ^ 60 :=
      Nat.lt_of_le_of_lt (Nat.le_trans (bdf_le _ _) (Nat.le_trans (bdf_le _ _) (bdf_le _ _))) hl.2.2
    have hc := comeA_lt nd rows (updN ch (l + 1) (chN ch l (lowb (un l) 60 0))) (updN (updN fr l (bdf (fr l) (2 ^ lowb (un l) 60 0))) (l + 1) (frN n nd due rows cols cs ch fr uc l (lowb (un l) 60 0))) (updN uc (l + 1) (bdf (uc l) (coN nd due rows cols ch uc l (lowb (un l) 60 0)))) no fo (updN un l (bdf (un l) (2 ^ lowb (un l) 60 0))) ke (l + 1) (by rw [updN_s]; exact hfr')
    refine ⟨⟨by show (comeA _ _ _ _ _ _ _ _ _ _).1 ≤ _; rw [hc.1]; omega, by show (comeA _ _ _ _ _ _ _ _ _ _).2.1 ≤ (comeA _ _ _ _ _ _ _ _ _ _).1; rw [hc.1]; have := hc.2.1; omega, by show l + 2 ≤ 61; omega, fun j hj => ?_⟩, ?_⟩
    · have hj' : j < l + 2 := hj
      show (comeA _ _ _ _ _ _ _ _ _ _).2.2.1 j < _ ∧ updN uc (l + 1) _ j < _ ∧ updN (updN fr l _) (l + 1) _ j < _
      by_cases e : j = l + 1
      · subst e
        refine ⟨hc.2.2.1, ?_, ?_⟩
        · rw [updN_s]; exact Nat.lt_of_le_of_lt (bdf_le _ _) hl.2.1
        · rw [updN_s]; exact hfr'
      · have hjl := h4 j (by omega)
        rw [hc.2.2.2 j e, updN_n e, updN_n e]
        refine ⟨?_, hjl.2.1, ?_⟩
        · by_cases e2 : j = l
          · subst e2; rw [updN_s]; exact Nat.lt_of_le_of_lt (bdf_le _ _) hl.1
          · rw [updN_n e2]; exact hjl.1
        · by_cases e2 : j = l
          · subst e2; rw [updN_s]; exact Nat.lt_of_le_of_lt (bdf_le _ _) hl.2.2
          · rw [updN_n e2]; exact hjl.2.2
    · show 2 * (50000 - (comeA _ _ _ _ _ _ _ _ _ _).1) + (l + 2) + 1 = 2 * (50000 - no) + (l + 1)
      rw [hc.1]; omega
/-- what run answers at a state that has come to its end -/
def retA (s : SS) : Int32 := if s.2.2.2.2.2.2.2 ≠ 0 ∧ 50000 ≤ s.1 then -2 else nI s.2.1
theorem qs_run {n nd R : Nat} {due rows cols cs : Nat → Nat} {most : Nat} (hn : n ≤ 24) (hnd : nd ≤ 24) (hdb : ∀ c, due c < 2147483648) (hrb : ∀ c, rows c < 2 ^ 60) (hmost : most < 2147483648) :
    ∀ m k g no fo ch fr un uc ke lv, k + m = 100000 → m < g → boA (no, fo, ch, fr, un, uc, ke, lv) → muA (no, fo, ch, fr, un, uc, ke, lv) ≤ m →
      f_X1_run_63 (nI n) (nI nd) (nI R) (aI due) (aI cols) (aL rows) (aL cs) g (nI no) (nI fo) (aL ch) (aL fr) (aL un) (aI uc) (aL ke) (nI most) (lvI lv) (nI k)
      = (fun t : SS => some (retA t, nI t.1, nI t.2.1, aL t.2.2.1, aL t.2.2.2.1, aL t.2.2.2.2.1, aI t.2.2.2.2.2.1, aL t.2.2.2.2.2.2.1)) (runA n nd due rows cols cs most m (no, fo, ch, fr, un, uc, ke, lv)) := by
  intro m
  induction m with
  | zero =>
    intro k g no fo ch fr un uc ke lv hk hg hb hm
    obtain ⟨q, rfl, hq⟩ := qt_fuel hg
    have hm' : 2 * (50000 - no) + lv ≤ 0 := hm
    have hlv : lv = 0 := by omega
    subst hlv
    have e : k = 100000 := by omega
    subst e
    simp only [f_X1_run_63, f_X1_run_153]
    rw [qz_i100000, if_pos (Int32.le_refl _)]
    show _ = some ((if ((0 : Nat) ≠ 0 ∧ 50000 ≤ no) then (-2 : Int32) else nI fo), _)
    rw [if_neg (fun c => c.1 rfl)]
    rfl
  | succ m ih =>
    intro k g no fo ch fr un uc ke lv hk hg hb hm
    obtain ⟨q, rfl, hq⟩ := qt_fuel hg
    have hb' := hb
    obtain ⟨h1, h2, h3, h4⟩ := hb'
    simp only at h1 h2 h3 h4
    rw [runA]
    by_cases hh : hltA most (no, fo, ch, fr, un, uc, ke, lv)
    · rw [@if_pos _ (Classical.propDecidable _) hh]
      have hh' : lv = 0 ∨ 50000 ≤ no ∨ most ≤ fo := hh
      simp only [f_X1_run_63, f_X1_run_153, retA]
      cases lv with
      | zero =>
        simp (disch := omega) only [qz_i0, qz_i1, qz_i2, qz_i3, qz_i4, qz_i5, qz_i6, qz_i7, qz_i8, qz_i9, qz_i24, qz_i27, qz_i31, qz_i60, qz_i61, qz_i100, qz_i101, qz_i50000, qz_i100000, ql_i0, ql_i1, ql_i63, ql_m1, qz_m1, qz_le, qz_lt, qz_eq, qz_add, qz_mul, qz_sub, qz_an, qz_ix, qz_and, qz_or, qz_shl, qz_shr, qz_andn, ql_eq, ql_and, ql_or, ql_shl, ql_shr, ql_andn, ql_of, qz_k31, qz_k63, qz_bit, qz_b0, qz_b1, ql_b0, ql_b1, lg_0, qz_gd, Nat.one_shiftLeft, aI_ap, aL_ap, upd_aI, upd_aL, aV_ap, upd_aV, upd_aVm, lvI]
        rw [if_neg (by omega), if_pos (by decide), if_neg (by simp)]
      | succ l =>
        simp (disch := omega) only [qz_i0, qz_i1, qz_i2, qz_i3, qz_i4, qz_i5, qz_i6, qz_i7, qz_i8, qz_i9, qz_i24, qz_i27, qz_i31, qz_i60, qz_i61, qz_i100, qz_i101, qz_i50000, qz_i100000, ql_i0, ql_i1, ql_i63, ql_m1, qz_m1, qz_le, qz_lt, qz_eq, qz_add, qz_mul, qz_sub, qz_an, qz_ix, qz_and, qz_or, qz_shl, qz_shr, qz_andn, ql_eq, ql_and, ql_or, ql_shl, ql_shr, ql_andn, ql_of, qz_k31, qz_k63, qz_bit, qz_b0, qz_b1, ql_b0, ql_b1, lg_0, qz_gd, Nat.one_shiftLeft, aI_ap, aL_ap, upd_aI, upd_aL, aV_ap, upd_aV, upd_aVm, lvI]
        rw [if_neg (by omega), if_neg (by omega)]
        by_cases hn2 : 50000 ≤ no
        · rw [if_neg (by omega), if_pos ⟨by omega, hn2⟩]
        · rw [if_pos (by omega), if_neg (by omega), if_neg (fun c => hn2 c.2)]
    · rw [@if_neg _ (Classical.propDecidable _) hh]
      have hs := boA_stp (n := n) (nd := nd) (due := due) (rows := rows) (cols := cols) (cs := cs) hb hh
      have hmu : muA (stpA n nd due rows cols cs (no, fo, ch, fr, un, uc, ke, lv)) ≤ m := by omega
      have hh2 : ¬ lv = 0 ∧ no < 50000 ∧ fo < most := by
        refine ⟨fun c => hh (Or.inl c), ?_, ?_⟩
        · exact Nat.lt_of_not_le (fun c => hh (Or.inr (Or.inl c)))
        · exact Nat.lt_of_not_le (fun c => hh (Or.inr (Or.inr c)))
      cases lv with
      | zero => exact absurd rfl hh2.1
      | succ l =>
        have hl := h4 l (by omega)
        have hstep := ih (k + 1) q
        revert hs hmu
        unfold stpA
        simp only [Nat.add_sub_cancel]
        intro hs hmu
        simp only [f_X1_run_63, f_X1_run_147, f_X1_run_124]
        simp (disch := omega) only [qz_i0, qz_i1, qz_i2, qz_i3, qz_i4, qz_i5, qz_i6, qz_i7, qz_i8, qz_i9, qz_i24, qz_i27, qz_i31, qz_i60, qz_i61, qz_i100, qz_i101, qz_i50000, qz_i100000, ql_i0, ql_i1, ql_i63, ql_m1, qz_m1, qz_le, qz_lt, qz_eq, qz_add, qz_mul, qz_sub, qz_an, qz_ix, qz_and, qz_or, qz_shl, qz_shr, qz_andn, ql_eq, ql_and, ql_or, ql_shl, ql_shr, ql_andn, ql_of, qz_k31, qz_k63, qz_bit, qz_b0, qz_b1, ql_b0, ql_b1, lg_0, qz_gd, Nat.one_shiftLeft, aI_ap, aL_ap, upd_aI, upd_aL, aV_ap, upd_aV, upd_aVm, lvI]
        rw [if_neg (by omega), if_neg (by omega), if_pos hh2.2.1, if_pos hh2.2.2]
        by_cases hz : un l = 0
        · rw [if_pos (Or.inl hz)] at hs hmu ⊢
          rw [hz, qn_none, Option.bind_some, if_pos (by decide)]
          have e : nI l - nI 1 = lvI l := by
            cases l with
            | zero => decide
            | succ l => rw [qz_sub (by omega)]; rfl
          have hx := hstep no fo ch fr un uc ke l (by omega) (by omega) hs.1 hmu
          rw [← e] at hx
          exact hx
        · obtain ⟨r, hr, hrow, hrb1, hrb2⟩ := qn_row hl.1 hz
          have hlow : lowb (un l) 60 0 = r := lowb_eq hrb1 hrb2 60 0 (by omega) (by omega)
          rw [hrow, Option.bind_some]
          simp (disch := omega) only [qz_i0, qz_i1, qz_i2, qz_i3, qz_i4, qz_i5, qz_i6, qz_i7, qz_i8, qz_i9, qz_i24, qz_i27, qz_i31, qz_i60, qz_i61, qz_i100, qz_i101, qz_i50000, qz_i100000, ql_i0, ql_i1, ql_i63, ql_m1, qz_m1, qz_le, qz_lt, qz_eq, qz_add, qz_mul, qz_sub, qz_an, qz_ix, qz_and, qz_or, qz_shl, qz_shr, qz_andn, ql_eq, ql_and, ql_or, ql_shl, ql_shr, ql_andn, ql_of, qz_k31, qz_k63, qz_bit, qz_b0, qz_b1, ql_b0, ql_b1, lg_0, qz_gd, Nat.one_shiftLeft, aI_ap, aL_ap, upd_aI, upd_aL, aV_ap, upd_aV, upd_aVm]
          rw [if_neg (by omega)]
          by_cases hl60 : 60 ≤ l
          · rw [if_pos (Or.inr hl60)] at hs hmu ⊢
            rw [if_neg (by omega)]
            have e : nI l - nI 1 = lvI l := by
              cases l with
              | zero => decide
              | succ l => rw [qz_sub (by omega)]; rfl
            have hx := hstep no fo ch fr un uc ke l (by omega) (by omega) hs.1 hmu
            rw [← e, qz_sub (by omega)] at hx
            exact hx
          · have hcond : ¬ (un l = 0 ∨ 60 ≤ l) := fun c => c.elim hz hl60
            rw [if_neg hcond, hlow] at hs hmu ⊢
            have huc : uc l < 2147483648 := Nat.lt_trans hl.2.1 (by decide)
            rw [if_pos (by omega), qs_chooseRow hn hnd hdb hrb (by omega) hr huc, Option.bind_some]
            have huc' : updN uc (l + 1) (bdf (uc l) (coN nd due rows cols ch uc l r)) (l + 1) < 2147483648 := by rw [updN_s]; exact Nat.lt_of_le_of_lt (bdf_le _ _) huc
            simp only
            rw [qs_comeTo hnd hrb (by omega) hh2.2.1 (by omega) huc', Option.bind_some]
            have hx := hstep _ _ _ _ _ _ _ _ (by omega) (by omega) hs.1 hmu
            exact hx
theorem fitA_lt {n nd R : Nat} {due rows cs : Nat → Nat} (hrb : ∀ c, rows c < 2 ^ 60) (ch : Nat) : fitA n nd R due rows cs ch < 2 ^ 60 :=
  Nat.lt_of_le_of_lt (Nat.le_trans (fitL_le _ _ _ _) (Nat.le_trans (bdf_le _ _) (bdf_le _ _))) (rwa_lt hrb _ _)
/-- the first node -/
def begA (n nd R : Nat) (due rows cs : Nat → Nat) (ch fr un uc ke : Nat → Nat) (start : Nat) : SS :=
  (fun (ch' fr' uc' : Nat → Nat) =>
    (fun (d : Nat × Nat × (Nat → Nat) × (Nat → Nat)) => (d.1, d.2.1, ch', fr', d.2.2.1, uc', d.2.2.2, 1))
      (comeA nd rows ch' fr' uc' 0 0 un ke 0))
    (updN ch 0 start) (updN fr 0 (fitA n nd R due rows cs start)) (updN uc 0 (bs (unP due rows (2 ^ nd - 1) start) nd))
theorem qs_p24 {k : Nat} (P : Nat → Bool) (h : k ≤ 24) : bs P k < 2 ^ 24 := Nat.lt_of_lt_of_le (bs_lt P k) (Nat.pow_le_pow_right (by decide) h)
theorem qs_beg {n nd R : Nat} {due rows cs : Nat → Nat} {ch fr un uc ke : Nat → Nat} {start : Nat} (hnd : nd ≤ 24) (hrb : ∀ c, rows c < 2 ^ 60) : boA (begA n nd R due rows cs ch fr un uc ke start) ∧ muA (begA n nd R due rows cs ch fr un uc ke start) = 99999 := by
  have hfr : updN fr 0 (fitA n nd R due rows cs start) 0 < 2 ^ 60 := by rw [updN_s]; exact fitA_lt hrb start
  have hc := comeA_lt nd rows (updN ch 0 start) (updN fr 0 (fitA n nd R due rows cs start)) (updN uc 0 (bs (unP due rows (2 ^ nd - 1) start) nd)) 0 0 un ke 0 hfr
  unfold begA
  refine ⟨⟨by show (comeA _ _ _ _ _ _ _ _ _ _).1 ≤ _; rw [hc.1]; decide, by show (comeA _ _ _ _ _ _ _ _ _ _).2.1 ≤ (comeA _ _ _ _ _ _ _ _ _ _).1; rw [hc.1]; exact hc.2.1, by show 1 ≤ 61; decide, fun j hj => ?_⟩, ?_⟩
  · have hj' : j < 1 := hj
    have e : j = 0 := by omega
    subst e
    exact ⟨hc.2.2.1, by show updN uc 0 _ 0 < _; rw [updN_s]; exact qs_p24 _ hnd, hfr⟩
  · show 2 * (50000 - (comeA _ _ _ _ _ _ _ _ _ _).1) + 1 = _
    rw [hc.1]
theorem qs_runAll {n nd R : Nat} {due rows cols cs : Nat → Nat} {ch fr un uc ke : Nat → Nat} {start most : Nat} {vno vfo : Int32} (hn : n ≤ 24) (hnd : nd ≤ n) (hR : R ≤ 60) (hdb : ∀ c, due c < 2147483648) (hrb : ∀ c, rows c < 2 ^ 60) (hcb : ∀ c, cs c < 2 ^ 60) (hmost : most < 2147483648) :
    f_X1_run (nI n) (nI nd) (nI R) (aI due) (aI cols) (aL rows) (aL cs) vno vfo (aL ch) (aL fr) (aL un) (aI uc) (aL ke) (lN start) (nI most)
      = (fun t : SS => some (retA t, nI t.1, nI t.2.1, aL t.2.2.1, aL t.2.2.2.1, aL t.2.2.2.2.1, aI t.2.2.2.2.2.1, aL t.2.2.2.2.2.2.1)) (runA n nd due rows cols cs most 100000 (begA n nd R due rows cs ch fr un uc ke start)) := by
  have h24 := qt_p24 (k := nd) (by omega)
  have hb := qs_beg (n := n) (nd := nd) (R := R) (due := due) (rows := rows) (cs := cs) (ch := ch) (fr := fr) (un := un) (uc := uc) (ke := ke) (start := start) (by omega) hrb
  have huc : updN uc 0 (bs (unP due rows (2 ^ nd - 1) start) nd) 0 < 2147483648 := by rw [updN_s]; exact Nat.lt_trans (qs_p24 _ (by omega)) (by decide)
  unfold f_X1_run
  rw [qt_fitting hn hnd hR (aI_ap due) (aL_ap rows) (aL_ap cs) hdb hrb hcb]
  simp (disch := omega) only [qz_i0, qz_i1, qz_i2, qz_i3, qz_i4, qz_i5, qz_i6, qz_i7, qz_i8, qz_i9, qz_i24, qz_i27, qz_i31, qz_i60, qz_i61, qz_i100, qz_i101, qz_i50000, qz_i100000, ql_i0, ql_i1, ql_i63, ql_m1, qz_m1, qz_le, qz_lt, qz_eq, qz_add, qz_mul, qz_sub, qz_an, qz_ix, qz_and, qz_or, qz_shl, qz_shr, qz_andn, ql_eq, ql_and, ql_or, ql_shl, ql_shr, ql_andn, ql_of, qz_k31, qz_k63, qz_bit, qz_b0, qz_b1, ql_b0, ql_b1, lg_0, qz_gd, Nat.one_shiftLeft, aI_ap, aL_ap, upd_aI, upd_aL, aV_ap, upd_aV, upd_aVm, Option.bind_some]
  rw [qt_needed (by omega), Option.bind_some, qt_uncovered (by omega) (aI_ap due) (aL_ap rows) hdb hrb (by omega)]
  simp (disch := omega) only [qz_i0, qz_i1, qz_i2, qz_i3, qz_i4, qz_i5, qz_i6, qz_i7, qz_i8, qz_i9, qz_i24, qz_i27, qz_i31, qz_i60, qz_i61, qz_i100, qz_i101, qz_i50000, qz_i100000, ql_i0, ql_i1, ql_i63, ql_m1, qz_m1, qz_le, qz_lt, qz_eq, qz_add, qz_mul, qz_sub, qz_an, qz_ix, qz_and, qz_or, qz_shl, qz_shr, qz_andn, ql_eq, ql_and, ql_or, ql_shl, ql_shr, ql_andn, ql_of, qz_k31, qz_k63, qz_bit, qz_b0, qz_b1, ql_b0, ql_b1, lg_0, qz_gd, Nat.one_shiftLeft, aI_ap, aL_ap, upd_aI, upd_aL, aV_ap, upd_aV, upd_aVm, Option.bind_some]
  rw [qs_comeTo (by omega) hrb (by omega) (by omega) (by omega) huc, Option.bind_some]
  exact qs_run hn (by omega) hdb hrb hmost 100000 0 1000000 _ _ _ _ _ _ _ 1 (by omega) (by omega) hb.1 (Nat.le_trans (Nat.le_of_eq hb.2) (by decide))
