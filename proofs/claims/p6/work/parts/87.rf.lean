-- take, open, ways, way, tell
theorem TS_congr {a b : Nat → Nat} : ∀ k, (∀ i, i < k → a i = b i) → TS a k = TS b k
  | 0, _ => rfl
  | k + 1, h => by rw [TS, TS, TS_congr k (fun i hi => h i (by omega)), h k (by omega)]
theorem du_lt {n nd R : Nat} {tm bt cl : Nat → Nat} (hT : TB n nd R tm bt cl) (c : Nat) : duF nd tm c < 2147483648 := by
  unfold duF
  have := hT.2.2.2.2.2.2.2.1 c
  split <;> omega
theorem rf_fit {n nd R : Nat} {tm bt cl : Nat → Nat} (hT : TB n nd R tm bt cl) (X : Nat) : f_X2_fitting (nI n) (nI nd) (nI R) (aI (duF nd tm)) (aL (roF R bt)) (aL (csF n nd R bt cl)) (lN X) = some (lN (fitA n nd R (duF nd tm) (roF R bt) (csF n nd R bt cl) X), ()) :=
  qt_fitting hT.2.1 hT.2.2.1 hT.2.2.2.1 (aI_ap _) (aL_ap _) (aL_ap _) (du_lt hT) (roF_lt bt hT.2.2.2.1) (csF_lt bt cl hT.2.2.2.1)
theorem rf_take {n nd R T : Nat} {tm bt cl tk : Nat → Nat} {vws th kp : Int32} {v1 v2 v3 v4 : Nat → Int32} (h : RLt n nd R T tm bt cl tk) (x1 : Int32) :
    (f_X4_take (nI n) (nI nd) (nI R) (aI (duF nd tm)) (aL (roF R bt)) (aL (csF n nd R bt cl)) (nI T) (lN (TS tk T)) vws (aI tk) x1 = some (.inr (RJx00060, nI T, lN (TS tk T), vws, aI tk)) ∧ f_X5_take (nI n) (nI nd) (nI R) (aI tm) (aI bt) (aI cl) th (nI T) kp (aI tk) v1 v2 v3 v4 x1 = some (nI 0, nI 1, nI T, kp, aI tk, v1, v2, v3, v4)) ∨
    (∃ w1 w2 w3 w4, f_X4_take (nI n) (nI nd) (nI R) (aI (duF nd tm)) (aL (roF R bt)) (aL (csF n nd R bt cl)) (nI T) (lN (TS tk T)) vws (aI tk) x1 = some (.inl (nI 0, nI T, lN (TS tk T), vws, aI tk)) ∧ f_X5_take (nI n) (nI nd) (nI R) (aI tm) (aI bt) (aI cl) th (nI T) kp (aI tk) v1 v2 v3 v4 x1 = some (nI 0, nI 0, nI T, kp, aI tk, w1, w2, w3, w4)) ∨
    ∃ tk' w1 w2 w3 w4, f_X4_take (nI n) (nI nd) (nI R) (aI (duF nd tm)) (aL (roF R bt)) (aL (csF n nd R bt cl)) (nI T) (lN (TS tk T)) vws (aI tk) x1 = some (.inl (nI 1, nI (T + 1), lN (TS tk' (T + 1)), nI 0, aI tk')) ∧ f_X5_take (nI n) (nI nd) (nI R) (aI tm) (aI bt) (aI cl) th (nI T) kp (aI tk) v1 v2 v3 v4 x1 = some (nI 1, nI 0, nI (T + 1), nI 0, aI tk', w1, w2, w3, w4) ∧ RLt n nd R (T + 1) tm bt cl tk' := by
  obtain ⟨hT, hz, hp, hk⟩ := h
  have hR := hT.2.2.2.1
  have hnd := hT.2.2.1
  have h60 := TS_60 hR hk
  have htab := tabF (n := n) (nd := nd) bt cl hR
  obtain ⟨ic, rfl⟩ := aI_all v1
  obtain ⟨ba, rfl⟩ := aV_all v2
  obtain ⟨cn, rfl⟩ := aI_all v3
  obtain ⟨co, rfl⟩ := aI_all v4
  rcases rc_row (n := R) (x := x1) (by omega) with ⟨r, r1, r2, r3, r4⟩ | ⟨r3, r4⟩
  · subst r2
    obtain ⟨ic', ba', cn', co', e1, e2, e3⟩ := qv_begin ic ba cn co hT hk
    have hok := TS_ok hR hk T (Nat.le_refl _)
    obtain ⟨b, b1, b2⟩ := qu_isOpen hT (fun o ho => (hok.1.1 o ho).1) e2 r1
    have hfit : (fitA n nd R (duF nd tm) (roF R bt) (csF n nd R bt cl) (TS tk T)).testBit r = b := by
      rw [Bool.eq_iff_iff, b2]
      exact fitA_tb htab hnd
    have hflt := fitA_lt (n := n) (nd := nd) (R := R) (due := duF nd tm) (rows := roF R bt) (cs := csF n nd R bt cl) (roF_lt bt hR) (TS tk T)
    have hC : f_X5_take (nI n) (nI nd) (nI R) (aI tm) (aI bt) (aI cl) th (nI T) kp (aI tk) (aI ic) (aV ba) (aI cn) (aI co) (nI r) = if nI b.toNat = 0 then some (nI 0, nI 0, nI T, kp, aI tk, aI ic', aV ba', aI cn', aI co') else (if (nI T < 0 ∨ 60 ≤ (nI T).toNatClampNeg) then none else some (nI 1, nI 0, nI T + 1, nI 0, upd (aI tk) (nI T).toNatClampNeg (nI r), aI ic', aV ba', aI cn', aI co')) := by
      unfold f_X5_take f_X5_take_15
      rw [r4, Option.bind_some]
      dsimp only
      rw [if_neg (show ¬ nI 1 = 0 by decide), show f_X5_throwsIf th (1 : Int32) (0 : Int32) = some (nI 0, nI 0) from qr_throws0, Option.bind_some]
      dsimp only
      rw [if_pos (show nI 0 = 0 from rfl), e1, Option.bind_some]
      dsimp only
      rw [b1, Option.bind_some]
      rfl
    rw [hC]
    unfold f_X4_take f_X4_take_34
    rw [r3, Option.bind_some]
    dsimp only [gx]
    rw [rf_fit hT, Option.bind_some]
    dsimp only
    have hlg : (lg_cmp ((lN (fitA n nd R (duF nd tm) (roF R bt) (csF n nd R bt cl) (TS tk T)) >>> (Int32.toInt64 (nI r) &&& 63)) &&& (1 : Int64)) (0 : Int64) = 0) ↔ b = false := by
      rw [← hfit]
      simp (disch := omega) only [qz_i0, qz_i1, qz_i2, qz_i3, qz_i4, qz_i5, qz_i6, qz_i7, qz_i8, qz_i9, qz_i24, qz_i27, qz_i31, qz_i60, qz_i61, qz_i100, qz_i101, qz_i50000, qz_i100000, ql_i0, ql_i1, ql_i63, ql_m1, qz_m1, qz_le, qz_lt, qz_eq, qz_add, qz_mul, qz_sub, qz_an, qz_ix, qz_and, qz_or, qz_shl, qz_shr, qz_andn, ql_eq, ql_and, ql_or, ql_shl, ql_shr, ql_andn, ql_of, qz_k31, qz_k63, qz_bit, qz_b0, qz_b1, ql_b0, ql_b1, lg_0, qz_gd, Nat.one_shiftLeft, aI_ap, aL_ap, upd_aI, upd_aL, aV_ap, upd_aV, upd_aVm]
    cases b
    · rw [if_pos (show nI (Bool.toNat false) = 0 from rfl), if_pos (hlg.2 rfl)]
      right; left
      refine ⟨_, _, _, _, ?_, rfl⟩
      by_cases q : (60 : Int32) ≤ nI T
      · rw [if_pos q]; rfl
      · rw [if_neg q]; rfl
    · have hfr : frT n nd R tm bt cl (TS tk T) r := b2.1 rfl
      have hTS : TS (updN tk T r) (T + 1) = TS tk T ||| 2 ^ r := by
        rw [TS, updN_s, TS_congr T (fun i hi => updN_n (by omega))]
      have hk' : tkOk n nd R tm bt cl (updN tk T r) (T + 1) := by
        intro k hk2
        by_cases q : k = T
        · subst q
          rw [updN_s, TS_congr k (fun i hi => updN_n (by omega))]
          exact hfr
        · rw [updN_n q, TS_congr k (fun i hi => updN_n (by omega))]
          exact hk k (by omega)
      have h61 := TS_60 hR hk'
      rw [if_neg (show ¬ nI (Bool.toNat true) = 0 by decide), if_neg (show ¬ (60 : Int32) ≤ nI T by rw [qz_i60, qz_le (by omega) (by omega)]; omega), if_neg (fun q => by cases hlg.1 q)]
      right; right
      refine ⟨updN tk T r, aI ic', aV ba', aI cn', aI co', ?_, ?_, hT, hz, hp, hk'⟩
      · rw [hTS]
        simp (disch := omega) only [qz_i0, qz_i1, qz_i2, qz_i3, qz_i4, qz_i5, qz_i6, qz_i7, qz_i8, qz_i9, qz_i24, qz_i27, qz_i31, qz_i60, qz_i61, qz_i100, qz_i101, qz_i50000, qz_i100000, ql_i0, ql_i1, ql_i63, ql_m1, qz_m1, qz_le, qz_lt, qz_eq, qz_add, qz_mul, qz_sub, qz_an, qz_ix, qz_and, qz_or, qz_shl, qz_shr, qz_andn, ql_eq, ql_and, ql_or, ql_shl, ql_shr, ql_andn, ql_of, qz_k31, qz_k63, qz_bit, qz_b0, qz_b1, ql_b0, ql_b1, lg_0, qz_gd, Nat.one_shiftLeft, aI_ap, aL_ap, upd_aI, upd_aL, aV_ap, upd_aV, upd_aVm]
      · simp (disch := omega) only [qz_i0, qz_i1, qz_i2, qz_i3, qz_i4, qz_i5, qz_i6, qz_i7, qz_i8, qz_i9, qz_i24, qz_i27, qz_i31, qz_i60, qz_i61, qz_i100, qz_i101, qz_i50000, qz_i100000, ql_i0, ql_i1, ql_i63, ql_m1, qz_m1, qz_le, qz_lt, qz_eq, qz_add, qz_mul, qz_sub, qz_an, qz_ix, qz_and, qz_or, qz_shl, qz_shr, qz_andn, ql_eq, ql_and, ql_or, ql_shl, ql_shr, ql_andn, ql_of, qz_k31, qz_k63, qz_bit, qz_b0, qz_b1, ql_b0, ql_b1, lg_0, qz_gd, Nat.one_shiftLeft, aI_ap, aL_ap, upd_aI, upd_aL, aV_ap, upd_aV, upd_aVm]
  · left
    unfold f_X4_take f_X5_take f_X5_take_15
    rw [r3, r4, Option.bind_some, Option.bind_some]
    dsimp only [gx]
    rw [if_pos (show nI 0 = 0 from rfl), show f_X5_throwsIf th (1 : Int32) (1 : Int32) = some (nI 1, nI 1) from qr_throws1, Option.bind_some]
    dsimp only
    rw [if_neg (show ¬ nI 1 = 0 by decide)]
    exact ⟨rfl, rfl⟩
theorem rf_open {n nd R T : Nat} {tm bt cl tk : Nat → Nat} {th : Int32} {v1 v2 v3 v4 : Nat → Int32} (h : RLt n nd R T tm bt cl tk) (x1 : Int32) :
    (f_X4_open (lN (TS tk T)) (nI n) (nI nd) (nI R) (aI (duF nd tm)) (aL (roF R bt)) (aL (csF n nd R bt cl)) x1 = some (.inr (RJx00060, ())) ∧ f_X5_open (nI n) (nI nd) (nI R) (nI T) (aI tm) (aI bt) (aI cl) (aI tk) th v1 v2 v3 v4 x1 = some (nI 0, nI 1, v1, v2, v3, v4)) ∨
    ∃ y w1 w2 w3 w4, f_X4_open (lN (TS tk T)) (nI n) (nI nd) (nI R) (aI (duF nd tm)) (aL (roF R bt)) (aL (csF n nd R bt cl)) x1 = some (.inl (nI y, ())) ∧ f_X5_open (nI n) (nI nd) (nI R) (nI T) (aI tm) (aI bt) (aI cl) (aI tk) th v1 v2 v3 v4 x1 = some (nI y, nI 0, w1, w2, w3, w4) := by
  obtain ⟨hT, hz, hp, hk⟩ := h
  have hn := hT.2.1
  have hR := hT.2.2.2.1
  have hnd := hT.2.2.1
  have h60 := TS_60 hR hk
  have htab := tabF (n := n) (nd := nd) bt cl hR
  obtain ⟨ic, rfl⟩ := aI_all v1
  obtain ⟨ba, rfl⟩ := aV_all v2
  obtain ⟨cn, rfl⟩ := aI_all v3
  obtain ⟨co, rfl⟩ := aI_all v4
  rcases rc_col (n := n) (x := x1) (by omega) with ⟨c, c1, c2, c3, c4⟩ | ⟨c3, c4⟩
  · subst c2
    right
    obtain ⟨ic', ba', cn', co', e1, e2, e3⟩ := qv_begin ic ba cn co hT hk
    have hok := TS_ok hR hk T (Nat.le_refl _)
    have hflt := fitA_lt (n := n) (nd := nd) (R := R) (due := duF nd tm) (rows := roF R bt) (cs := csF n nd R bt cl) (roF_lt bt hR) (TS tk T)
    have hand : fitA n nd R (duF nd tm) (roF R bt) (csF n nd R bt cl) (TS tk T) &&& roF R bt c < 18446744073709551616 := Nat.lt_of_le_of_lt Nat.and_le_left (Nat.lt_trans hflt (by decide))
    have hloop : ∀ m k g, k + m = R → m < g → f_X5_open_31 (nI n) (nI nd) (nI R) (nI T) (aI tm) (aI bt) (aI cl) (aI tk) g (nI 0) (aI ic') (aV ba') (aI cn') (aI co') (nI c) (nI (pc (roF R bt c &&& fitA n nd R (duF nd tm) (roF R bt) (csF n nd R bt cl) (TS tk T)) k)) (nI k) = some (nI (pc (roF R bt c &&& fitA n nd R (duF nd tm) (roF R bt) (csF n nd R bt cl) (TS tk T)) R), nI 0, aI ic', aV ba', aI cn', aI co') := by
      intro m
      induction m with
      | zero =>
        intro k g hk2 hg
        obtain ⟨p, rfl, hp2⟩ := qt_fuel hg
        have e : k = R := by omega
        subst e
        simp only [f_X5_open_31]
        rw [if_pos (Int32.le_refl _)]
      | succ m ih =>
        intro k g hk2 hg
        obtain ⟨p, rfl, hp2⟩ := qt_fuel hg
        have hstep := ih (k + 1) p (by omega) (by omega)
        obtain ⟨b, b1, b2⟩ := qu_isOpen (r := k) hT (fun o ho => (hok.1.1 o ho).1) e2 (by omega)
        have hfit : (fitA n nd R (duF nd tm) (roF R bt) (csF n nd R bt cl) (TS tk T)).testBit k = b := by
          rw [Bool.eq_iff_iff, b2]
          exact fitA_tb htab hnd
        rw [pc, Nat.testBit_and, roF_tb, hfit, decide_eq_true (show k < R by omega), Bool.true_and] at hstep
        simp only [f_X5_open_31, f_X5_open_61, f_X5_open_62]
        rw [qr_has (hT.b24 k) (by omega) (by omega), Option.bind_some, b1, Option.bind_some]
        simp (disch := omega) only [qz_i0, qz_i1, qz_i2, qz_i3, qz_i4, qz_i5, qz_i6, qz_i7, qz_i8, qz_i9, qz_i24, qz_i27, qz_i31, qz_i60, qz_i61, qz_i100, qz_i101, qz_i50000, qz_i100000, ql_i0, ql_i1, ql_i63, ql_m1, qz_m1, qz_le, qz_lt, qz_eq, qz_add, qz_mul, qz_sub, qz_an, qz_ix, qz_and, qz_or, qz_shl, qz_shr, qz_andn, ql_eq, ql_and, ql_or, ql_shl, ql_shr, ql_andn, ql_of, qz_k31, qz_k63, qz_bit, qz_b0, qz_b1, ql_b0, ql_b1, lg_0, qz_gd, Nat.one_shiftLeft, aI_ap, aL_ap, upd_aI, upd_aL, aV_ap, upd_aV, upd_aVm]
        rw [if_neg (by omega)]
        cases q : (bt k).testBit c
        · rw [q] at hstep
          rw [if_pos rfl]
          exact hstep
        · rw [q] at hstep
          rw [if_neg (by decide)]
          cases b
          · rw [if_pos rfl]; exact hstep
          · rw [if_neg (by decide)]; exact hstep
    refine ⟨pc (roF R bt c &&& fitA n nd R (duF nd tm) (roF R bt) (csF n nd R bt cl) (TS tk T)) R, aI ic', aV ba', aI cn', aI co', ?_, ?_⟩
    · unfold f_X4_open
      rw [c3, Option.bind_some]
      dsimp only [gx]
      rw [rf_fit hT, Option.bind_some]
      simp (disch := omega) only [qz_i0, qz_i1, qz_i2, qz_i3, qz_i4, qz_i5, qz_i6, qz_i7, qz_i8, qz_i9, qz_i24, qz_i27, qz_i31, qz_i60, qz_i61, qz_i100, qz_i101, qz_i50000, qz_i100000, ql_i0, ql_i1, ql_i63, ql_m1, qz_m1, qz_le, qz_lt, qz_eq, qz_add, qz_mul, qz_sub, qz_an, qz_ix, qz_and, qz_or, qz_shl, qz_shr, qz_andn, ql_eq, ql_and, ql_or, ql_shl, ql_shr, ql_andn, ql_of, qz_k31, qz_k63, qz_bit, qz_b0, qz_b1, ql_b0, ql_b1, lg_0, qz_gd, Nat.one_shiftLeft, aI_ap, aL_ap, upd_aI, upd_aL, aV_ap, upd_aV, upd_aVm, qp_L _ hand, Option.bind_some]
      rw [Nat.and_comm, pc_R hR]
    · unfold f_X5_open f_X5_open_15
      rw [c4, Option.bind_some]
      dsimp only
      rw [if_neg (show ¬ nI 1 = 0 by decide), show f_X5_throwsIf th (1 : Int32) (0 : Int32) = some (nI 0, nI 0) from qr_throws0, Option.bind_some]
      dsimp only
      rw [if_pos (show nI 0 = 0 from rfl), e1, Option.bind_some]
      exact hloop R 0 1000000 (by omega) (by omega)
  · left
    unfold f_X4_open f_X5_open f_X5_open_15
    rw [c3, c4, Option.bind_some, Option.bind_some]
    dsimp only [gx]
    rw [if_pos (show nI 0 = 0 from rfl), show f_X5_throwsIf th (1 : Int32) (1 : Int32) = some (nI 1, nI 1) from qr_throws1, Option.bind_some]
    dsimp only
    rw [if_neg (show ¬ nI 1 = 0 by decide)]
    exact ⟨rfl, rfl⟩
