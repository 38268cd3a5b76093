-- THE PIECE turned and moved, as the class does it
def pl (c a : Nat) : Nat := if a = 0 then c % 3 else if a = 1 then c / 3 % 3 else c / 9
def axN (o a : Nat) : Nat := ([0, 1, 2, 1, 2, 0, 2, 0, 1, 0, 2, 1, 2, 1, 0, 1, 0, 2] : List Nat).getD (o * 3 + a) 0
def coC (o f c a : Nat) : Nat := if f.testBit a then 2 - pl c (axN o a) else pl c (axN o a)
def tcN (c o f : Nat) : Nat := coC o f c 0 + 3 * coC o f c 1 + 9 * coC o f c 2
theorem qg_tc : ∀ c, c < 27 → ∀ o, o < 6 → ∀ f, f < 8 → f_X0_turnedCell (nI c) (nI o) (nI f) = some (nI (tcN c o f), ()) := by decide +kernel
theorem qg_tc27 : ∀ c, c < 27 → ∀ o, o < 6 → ∀ f, f < 8 → tcN c o f < 27 ∧ pl (tcN c o f) 0 = coC o f c 0 ∧ pl (tcN c o f) 1 = coC o f c 1 ∧ pl (tcN c o f) 2 = coC o f c 2 := by decide +kernel
def tuB (o f : Nat) : Bool := decide (3 ≤ o) == decide (pc f 3 % 2 = 1)
def kiB (k o f : Nat) : Bool := if k = 0 then decide (o = 0 ∧ f = 0) else if k = 1 then decide (axN o 2 = 2 ∧ f.testBit 2 = false) else if k = 2 then decide (axN o 2 = 2) else true
theorem qg_tu : ∀ o, o < 6 → ∀ f, f < 8 → f_X0_isTurn (nI o) (nI f) = some (nI (tuB o f).toNat, ()) := by decide +kernel
theorem qg_ki : ∀ k, k < 4 → ∀ o, o < 6 → ∀ f, f < 8 → f_X0_isOfKind (nI k) (nI o) (nI f) = some (nI (kiB k o f).toNat, ()) := by decide +kernel
theorem qg_pl : ∀ c, c < 27 → f_X0_placeOn (nI c) (nI 0) = some (nI (pl c 0), ()) ∧ f_X0_placeOn (nI c) (nI 1) = some (nI (pl c 1), ()) ∧ f_X0_placeOn (nI c) (nI 2) = some (nI (pl c 2), ()) := by decide +kernel
theorem qg_pl3 : ∀ c, c < 27 → pl c 0 < 3 ∧ pl c 1 < 3 ∧ pl c 2 < 3 := by decide +kernel
theorem qg_turned {cu o f : Nat} (hcu : cu < 2147483648) (ho : o < 6) (hf : f < 8) : f_X0_turned (nI cu) (nI o) (nI f) = some (nI (imS (fun c => tcN c o f) cu 27), ()) := by
  have key : ∀ m k g, k + m = 27 → m < g → f_X0_turned_5 (nI cu) g (nI o) (nI f) (nI (imS (fun c => tcN c o f) cu k)) (nI k) = some (nI (imS (fun c => tcN c o f) cu 27), ()) := by
    intro m
    induction m with
    | zero =>
      intro k g hk hg
      obtain ⟨p, rfl, hp⟩ := qt_fuel hg
      have e : k = 27 := by omega
      subst e
      simp only [f_X0_turned_5]
      rw [qz_i27, if_pos (Int32.le_refl _)]
    | succ m ih =>
      intro k g hk hg
      obtain ⟨p, rfl, hp⟩ := qt_fuel hg
      have hstep := ih (k + 1) p (by omega) (by omega)
      have h27 := (qg_tc27 k (by omega) o ho f hf).1
      rw [imS] at hstep
      simp only [f_X0_turned_5, f_X0_turned_36]
      rw [qg_tc k (by omega) o ho f hf, Option.bind_some]
      simp (disch := omega) only [qz_i0, qz_i1, qz_i2, qz_i3, qz_i4, qz_i5, qz_i6, qz_i7, qz_i8, qz_i9, qz_i24, qz_i27, qz_i31, qz_i60, qz_i61, qz_i100, qz_i101, qz_i50000, qz_i100000, ql_i0, ql_i1, ql_i63, ql_m1, qz_m1, qz_le, qz_lt, qz_eq, qz_add, qz_mul, qz_sub, qz_an, qz_ix, qz_and, qz_or, qz_shl, qz_shr, qz_andn, ql_eq, ql_and, ql_or, ql_shl, ql_shr, ql_andn, ql_of, qz_k31, qz_k63, qz_bit, qz_b0, qz_b1, ql_b0, ql_b1, lg_0, qz_gd, Nat.one_shiftLeft, aI_ap, aL_ap, upd_aI, upd_aL, aV_ap, upd_aV, upd_aVm]
      rw [if_neg (by omega)]
      by_cases h : cu.testBit k = true
      · rw [if_pos h] at hstep
        rw [if_neg (by rw [h]; decide)]
        exact hstep
      · have h' : cu.testBit k = false := by simpa using h
        rw [if_neg h, Nat.or_zero] at hstep
        rw [if_pos h']
        exact hstep
  exact key 27 0 1000000 (by omega) (by omega)
/-- a number less two -/
def zo (e : Nat) : Int32 := nI e - nI 2
theorem zo_toInt {e : Nat} (h : e < 1000) : (zo e).toInt = (e : Int) - 2 := pk_sub_toInt (a := e) (b := 2) (by omega) (by decide)
theorem zo_add (p e : Nat) : nI p + zo e = zo (p + e) := by
  unfold zo
  rw [← qz_add, Int32.sub_eq_add_neg, Int32.sub_eq_add_neg, Int32.add_assoc]
theorem zo_1 (e : Nat) : zo e + nI 1 = zo (e + 1) := by rw [Int32.add_comm, zo_add, Nat.add_comm]
theorem zo_le {w e : Nat} (hw : w < 1000) (he : e < 1000) : nI w ≤ zo e ↔ w + 2 ≤ e := by
  rw [Int32.le_iff_toInt_le, zo_toInt he, nI_toInt (by omega)]; omega
theorem zo_lt {w e : Nat} (hw : w < 1000) (he : e < 1000) : zo e < nI w ↔ e < w + 2 := by
  rw [Int32.lt_iff_toInt_lt, zo_toInt he, nI_toInt (by omega)]; omega
theorem zo_ge {e : Nat} (h : 2 ≤ e) : zo e = nI (e - 2) := qz_sub h
theorem zo_m2 : (-2 : Int32) = zo 0 := by decide
def inC (w h d ex ey ez c : Nat) : Bool := decide (2 ≤ pl c 0 + ex ∧ pl c 0 + ex < w + 2 ∧ 2 ≤ pl c 1 + ey ∧ pl c 1 + ey < h + 2 ∧ 2 ≤ pl c 2 + ez ∧ pl c 2 + ez < d + 2)
def ixC (w h ex ey ez c : Nat) : Nat := (pl c 0 + ex - 2) + w * ((pl c 1 + ey - 2) + h * (pl c 2 + ez - 2))
theorem ix_lt {w h d x y z : Nat} (hx : x < w) (hy : y < h) (hz : z < d) : x + w * (y + h * z) < w * h * d := by
  have h1 : y + h * z + 1 ≤ h * d := by
    have : h * (z + 1) ≤ h * d := Nat.mul_le_mul_left h hz
    rw [Nat.mul_add, Nat.mul_one] at this
    omega
  have h2 : w * (y + h * z + 1) ≤ w * (h * d) := Nat.mul_le_mul_left w h1
  rw [Nat.mul_add, Nat.mul_one, ← Nat.mul_assoc] at h2
  omega
def vaC (w h d ex ey ez T : Nat) : Nat := if allK (fun c => !T.testBit c || inC w h d ex ey ez c) 27 0 = true then imS (ixC w h ex ey ez) T 27 else 0
theorem qg_setAt {w h d ex ey ez T : Nat} (hT : T < 2147483648) (hw : w ≤ 24) (hh : h ≤ 24) (hd : d ≤ 24) (hwhd : w * h * d ≤ 24) (hx : ex < 100) (hy : ey < 100) (hz : ez < 100) :
    f_X0_setAt (nI w) (nI h) (nI d) (nI T) (zo ex) (zo ey) (zo ez) = some (nI (vaC w h d ex ey ez T), ()) := by
  have key : ∀ m k g, k + m = 27 → m < g → f_X0_setAt_6 (nI w) (nI h) (nI d) g (nI T) (zo ex) (zo ey) (zo ez) (nI (imS (ixC w h ex ey ez) T k)) (nI k) = some (nI (if allK (fun c => !T.testBit c || inC w h d ex ey ez c) m k = true then imS (ixC w h ex ey ez) T 27 else 0), ()) := by
    intro m
    induction m with
    | zero =>
      intro k g hk hg
      obtain ⟨p, rfl, hp⟩ := qt_fuel hg
      have e : k = 27 := by omega
      subst e
      simp only [f_X0_setAt_6]
      rw [qz_i27, if_pos (Int32.le_refl _), allK, if_pos rfl]
    | succ m ih =>
      intro k g hk hg
      obtain ⟨p, rfl, hp⟩ := qt_fuel hg
      have hstep := ih (k + 1) p (by omega) (by omega)
      have hp := qg_pl k (by omega)
      have hp3 := qg_pl3 k (by omega)
      rw [imS] at hstep
      simp only [f_X0_setAt_6, f_X0_setAt_122, f_X0_setAt_95]
      rw [show (0 : Int32) = nI 0 from rfl, show (1 : Int32) = nI 1 from rfl, show (2 : Int32) = nI 2 from rfl, hp.1, Option.bind_some, hp.2.1, Option.bind_some, hp.2.2, Option.bind_some, allK]
      simp (disch := omega) only [qz_i0, qz_i1, qz_i2, qz_i3, qz_i4, qz_i5, qz_i6, qz_i7, qz_i8, qz_i9, qz_i24, qz_i27, qz_i31, qz_i60, qz_i61, qz_i100, qz_i101, qz_i50000, qz_i100000, ql_i0, ql_i1, ql_i63, ql_m1, qz_m1, qz_le, qz_lt, qz_eq, qz_add, qz_mul, qz_sub, qz_an, qz_ix, qz_and, qz_or, qz_shl, qz_shr, qz_andn, ql_eq, ql_and, ql_or, ql_shl, ql_shr, ql_andn, ql_of, qz_k31, qz_k63, qz_bit, qz_b0, qz_b1, ql_b0, ql_b1, lg_0, qz_gd, Nat.one_shiftLeft, aI_ap, aL_ap, upd_aI, upd_aL, aV_ap, upd_aV, upd_aVm, zo_add, zo_le, zo_lt]
      rw [if_neg (by omega)]
      by_cases ht : T.testBit k = true
      · rw [if_pos ht] at hstep
        rw [if_neg (by rw [ht]; decide), ht, Bool.not_true, Bool.false_or]
        by_cases hin : inC w h d ex ey ez k = true
        · have hin' := hin
          unfold inC at hin'
          rw [decide_eq_true_iff] at hin'
          obtain ⟨i1, i2, i3, i4, i5, i6⟩ := hin'
          have hix := ix_lt (w := w) (h := h) (d := d) (x := pl k 0 + ex - 2) (y := pl k 1 + ey - 2) (z := pl k 2 + ez - 2) (by omega) (by omega) (by omega)
          rw [if_neg (by omega), if_neg (by omega), if_neg (by omega), if_neg (by omega), if_neg (by omega), if_pos (by omega), hin, Bool.true_and]
          rw [zo_ge i1, zo_ge i3, zo_ge i5]
          simp (disch := omega) only [qz_i0, qz_i1, qz_i2, qz_i3, qz_i4, qz_i5, qz_i6, qz_i7, qz_i8, qz_i9, qz_i24, qz_i27, qz_i31, qz_i60, qz_i61, qz_i100, qz_i101, qz_i50000, qz_i100000, ql_i0, ql_i1, ql_i63, ql_m1, qz_m1, qz_le, qz_lt, qz_eq, qz_add, qz_mul, qz_sub, qz_an, qz_ix, qz_and, qz_or, qz_shl, qz_shr, qz_andn, ql_eq, ql_and, ql_or, ql_shl, ql_shr, ql_andn, ql_of, qz_k31, qz_k63, qz_bit, qz_b0, qz_b1, ql_b0, ql_b1, lg_0, qz_gd, Nat.one_shiftLeft, aI_ap, aL_ap, upd_aI, upd_aL, aV_ap, upd_aV, upd_aVm]
          exact hstep
        · have hin' : inC w h d ex ey ez k = false := by simpa using hin
          rw [hin', Bool.false_and, if_neg (show ¬ ((false : Bool) = true) by decide)]
          unfold inC at hin
          rw [decide_eq_true_iff] at hin
          by_cases j1 : pl k 0 + ex < 0 + 2
          · rw [if_pos j1]
          · rw [if_neg j1]
            by_cases j2 : w + 2 ≤ pl k 0 + ex
            · rw [if_pos j2]
            · rw [if_neg j2]
              by_cases j3 : pl k 1 + ey < 0 + 2
              · rw [if_pos j3]
              · rw [if_neg j3]
                by_cases j4 : h + 2 ≤ pl k 1 + ey
                · rw [if_pos j4]
                · rw [if_neg j4]
                  by_cases j5 : pl k 2 + ez < 0 + 2
                  · rw [if_pos j5]
                  · rw [if_neg j5, if_neg (fun q => hin ⟨by omega, by omega, by omega, by omega, by omega, q⟩)]
      · have ht' : T.testBit k = false := by simpa using ht
        rw [if_neg ht, Nat.or_zero] at hstep
        rw [if_pos ht', ht', Bool.not_false, Bool.true_or, Bool.true_and]
        exact hstep
  exact key 27 0 1000000 (by omega) (by omega)
