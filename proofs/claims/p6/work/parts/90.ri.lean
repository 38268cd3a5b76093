-- lay, whole
theorem ri_cu {M cu : Nat} {cb : Nat → Nat} (h : RLc M cb cu) : nI cu ≠ 0 ↔ M ≠ 0 := by
  obtain ⟨c1, c2, c3, c4, c5⟩ := h
  have h27 : cu < 134217728 := c5
  have e : nI cu = 0 ↔ cu = 0 := by rw [qz_i0]; exact qz_eq (by omega) (by omega)
  constructor
  · intro q z
    apply q
    rw [e]
    apply Nat.eq_of_testBit_eq
    intro i
    rw [Nat.zero_testBit]
    cases hb : cu.testBit i
    · rfl
    · obtain ⟨k, k1, _⟩ := (c3 i).1 hb
      omega
  · intro q z
    rw [e] at z
    have := (c3 (cb 0)).2 ⟨0, by omega, rfl⟩
    rw [z, Nat.zero_testBit] at this
    cases this
theorem ri_c12 {n nd R cu : Nat} {bt cl a0 : Nat → Nat} {vws y1 y2 y3 y4 y5 : Int32} {x1 x2 x3 x4 x5 : Int32} {w h d k : Nat} (hn : n ≤ 24) (ok : okX n x1 x2 x3 x4 w h d k) (hcu : nI cu ≠ 0) :
    f_X4_lay_12 (nI 0) (nI n) (nI nd) vws (nI R) (aI bt) (aI (ccF nd cl)) (aL (roF R bt)) (aL (csF n nd R bt cl)) (nI cu) y1 y2 y3 y4 y5 (aI a0) x1 x2 x3 x4 x5 = if x5 = -1 then f_X4_lay_93 (nI 0) (nI n) (nI nd) vws (nI R) (aI bt) (aI (ccF nd cl)) (aL (roF R bt)) (aL (csF n nd R bt cl)) (nI cu) y1 y2 y3 y4 y5 (aI a0) x1 x2 x3 x4 x5 else if x1 * x2 * x3 ≤ x5 then f_X4_lay_93 (nI 0) (nI n) (nI nd) vws (nI R) (aI bt) (aI (ccF nd cl)) (aL (roF R bt)) (aL (csF n nd R bt cl)) (nI cu) y1 y2 y3 y4 y5 (aI a0) x1 x2 x3 x4 x5 else some (.inr ("java/lang/IllegalArgumentException", vws, nI R, aI bt, aI (ccF nd cl), aL (roF R bt), aL (csF n nd R bt cl), nI cu, y1, y2, y3, y4, y5, aI a0)) := by
  unfold f_X4_lay_12 f_X4_lay_41 f_X0_isEmpty f_X0_isEmpty_12
  rw [hb_yes hn ok, Option.bind_some]
  dsimp only
  obtain ⟨o1, o2, o3, o4, o5, o6, o7, o8, e1, e2, e3, e4⟩ := ok
  rw [if_neg (show ¬ nI 1 = 0 by decide), if_neg (show ¬ x4 < 0 by rw [e4, qz_i0, qz_lt (by omega) (by omega)]; omega), if_neg (show ¬ (3 : Int32) < x4 by rw [e4, qz_i3, qz_lt (by omega) (by omega)]; omega), if_neg (show ¬ (1 : Int32) = 0 by decide), if_neg hcu, if_neg (show ¬ ¬ ((0 : Int32) = 0 ∨ (0 : Int32) = 1) by decide), Option.bind_some]
  dsimp only
  rw [if_pos (show (0 : Int32) = 0 from rfl), if_pos (show nI 0 ≤ (0 : Int32) by decide)]
theorem ri_r22 {n R M : Nat} {bt cl cb l0 : Nat → Nat} {th kp ypl : Int32} {x1 x2 x3 x4 x5 : Int32} {w h d k : Nat} (hn : n ≤ 24) (ok : okX n x1 x2 x3 x4 w h d k) (hM : M ≠ 0) (hM7 : M ≤ 7) :
    f_X5_lay_22 (nI n) (nI 0) (aI cb) th (nI R) (nI M) ypl kp (aI bt) (aI cl) (aI l0) x1 x2 x3 x4 x5 (nI 0) (nI 1) = if x5 < 0 then f_X5_lay_123 (nI n) (nI 0) (aI cb) (nI 0) (nI R) (nI M) ypl kp (aI bt) (aI cl) (aI l0) x1 x2 x3 x4 x5 (nI 2) else if x1 * x2 * x3 ≤ x5 then f_X5_lay_123 (nI n) (nI 0) (aI cb) (nI 0) (nI R) (nI M) ypl kp (aI bt) (aI cl) (aI l0) x1 x2 x3 x4 x5 (nI 2) else some (nI 0, nI 2, nI R, nI M, ypl, kp, aI bt, aI cl, aI l0) := by
  obtain ⟨o1, o2, o3, o4, o5, o6, o7, o8, e1, e2, e3, e4⟩ := ok
  have hb : w * h ≤ 24 * 24 := Nat.mul_le_mul o2 o4
  have hb2 : w * h * d ≤ 24 * 24 * 24 := Nat.mul_le_mul hb o6
  unfold f_X5_lay_22
  rw [qr_throws0, Option.bind_some]
  dsimp only
  have hM0 : ¬ nI M = 0 := by rw [qz_i0, qz_eq (by omega) (by omega)]; exact hM
  have l1 : ∀ v : Nat, 1 ≤ v → v ≤ 24 → ¬ nI v < (1 : Int32) := fun v a b => by rw [qz_i1, qz_lt (by omega) (by omega)]; omega
  have l2 : ∀ v : Nat, v ≤ 24 → ¬ (24 : Int32) < nI v := fun v b => by rw [qz_i24, qz_lt (by omega) (by omega)]; omega
  subst e1 e2 e3 e4
  have l3 : ¬ nI n < nI w * nI h * nI d := by rw [qz_mul, qz_mul, qz_lt (by omega) (by omega)]; omega
  rw [if_pos (show nI 0 = 0 from rfl), if_neg (l1 w o1 o2), if_neg (l1 h o3 o4), if_neg (l1 d o5 o6), if_neg (l2 w o2), if_neg (l2 h o4), if_neg (l2 d o6), if_neg l3, if_neg (show ¬ nI k < 0 by rw [qz_i0, qz_lt (by omega) (by omega)]; omega), if_neg (show ¬ (3 : Int32) < nI k by rw [qz_i3, qz_lt (by omega) (by omega)]; omega), if_neg hM0, if_pos (show nI 0 ≤ (0 : Int32) by decide)]
  unfold f_X5_lay_124
  rw [show f_X5_throwsIf (nI 0) (2 : Int32) (1 : Int32) = some (nI 1, nI 2) from qr_throws1, Option.bind_some]
  rfl
theorem ri_lay {n nd R T M cu : Nat} {tm bt cl tk cb a0 l0 : Nat → Nat} {vws th kp ypl y1 y2 y3 y4 y5 : Int32} (hl : RLt n nd R T tm bt cl tk) (hc : RLc M cb cu) (x1 x2 x3 x4 x5 : Int32) :
    (f_X4_lay (nI T) (nI n) (nI nd) vws (nI R) (aI bt) (aI (ccF nd cl)) (aL (roF R bt)) (aL (csF n nd R bt cl)) (nI cu) y1 y2 y3 y4 y5 (aI a0) x1 x2 x3 x4 x5 = some (.inr (RJx00060, vws, nI R, aI bt, aI (ccF nd cl), aL (roF R bt), aL (csF n nd R bt cl), nI cu, y1, y2, y3, y4, y5, aI a0)) ∧ f_X5_lay (nI n) (nI T) (aI cb) th (nI R) (nI M) ypl kp (aI bt) (aI cl) (aI l0) x1 x2 x3 x4 x5 = some (nI 0, nI 1, nI R, nI M, ypl, kp, aI bt, aI cl, aI l0)) ∨
    (f_X4_lay (nI T) (nI n) (nI nd) vws (nI R) (aI bt) (aI (ccF nd cl)) (aL (roF R bt)) (aL (csF n nd R bt cl)) (nI cu) y1 y2 y3 y4 y5 (aI a0) x1 x2 x3 x4 x5 = some (.inr ("java/lang/IllegalArgumentException", vws, nI R, aI bt, aI (ccF nd cl), aL (roF R bt), aL (csF n nd R bt cl), nI cu, y1, y2, y3, y4, y5, aI a0)) ∧ f_X5_lay (nI n) (nI T) (aI cb) th (nI R) (nI M) ypl kp (aI bt) (aI cl) (aI l0) x1 x2 x3 x4 x5 = some (nI 0, nI 2, nI R, nI M, ypl, kp, aI bt, aI cl, aI l0)) ∨
    laD n nd R T M cu tm bt cl tk cb vws kp (f_X4_lay (nI T) (nI n) (nI nd) vws (nI R) (aI bt) (aI (ccF nd cl)) (aL (roF R bt)) (aL (csF n nd R bt cl)) (nI cu) y1 y2 y3 y4 y5 (aI a0) x1 x2 x3 x4 x5) (f_X5_lay (nI n) (nI T) (aI cb) th (nI R) (nI M) ypl kp (aI bt) (aI cl) (aI l0) x1 x2 x3 x4 x5) := by
  have hn := hl.1.2.1
  have hT60 := TS_60 hl.1.2.2.2.1 hl.2.2.2
  have hM7 := hc.1
  -- the part behind the test of the column
  have hmain : (x5 = -1 ∨ ∃ p, p < n ∧ x5 = nI p) →
      (f_X4_lay_12 (nI T) (nI n) (nI nd) vws (nI R) (aI bt) (aI (ccF nd cl)) (aL (roF R bt)) (aL (csF n nd R bt cl)) (nI cu) y1 y2 y3 y4 y5 (aI a0) x1 x2 x3 x4 x5 = some (.inr ("java/lang/IllegalArgumentException", vws, nI R, aI bt, aI (ccF nd cl), aL (roF R bt), aL (csF n nd R bt cl), nI cu, y1, y2, y3, y4, y5, aI a0)) ∧ f_X5_lay_22 (nI n) (nI T) (aI cb) th (nI R) (nI M) ypl kp (aI bt) (aI cl) (aI l0) x1 x2 x3 x4 x5 (nI 0) (nI 1) = some (nI 0, nI 2, nI R, nI M, ypl, kp, aI bt, aI cl, aI l0)) ∨
      laD n nd R T M cu tm bt cl tk cb vws kp (f_X4_lay_12 (nI T) (nI n) (nI nd) vws (nI R) (aI bt) (aI (ccF nd cl)) (aL (roF R bt)) (aL (csF n nd R bt cl)) (nI cu) y1 y2 y3 y4 y5 (aI a0) x1 x2 x3 x4 x5) (f_X5_lay_22 (nI n) (nI T) (aI cb) th (nI R) (nI M) ypl kp (aI bt) (aI cl) (aI l0) x1 x2 x3 x4 x5 (nI 0) (nI 1)) := by
    intro hx5
    by_cases hok : (∃ w h d k, okX n x1 x2 x3 x4 w h d k) ∧ M ≠ 0 ∧ T = 0
    · obtain ⟨⟨w, h, d, k, ok⟩, hM, hT0⟩ := hok
      subst hT0
      have hcu := (ri_cu hc).2 hM
      rw [ri_c12 hn ok hcu, ri_r22 hn ok hM hM7]
      rcases hx5 with z | ⟨p, p1, p2⟩
      · right
        rw [if_pos z, if_pos (show x5 < 0 by rw [z]; decide)]
        exact rh_core (bes := 0) hl hc ok hM (Or.inl ⟨z, rfl⟩)
      · have hne : ¬ x5 = -1 := fun z => by
          rw [p2] at z
          have := congrArg Int32.toInt z
          rw [nI_toInt (by omega), show (-1 : Int32).toInt = -1 by decide] at this
          omega
        have hnn : ¬ x5 < 0 := by rw [p2, qz_i0, qz_lt (by omega) (by omega)]; omega
        rw [if_neg hne, if_neg hnn]
        by_cases q : x1 * x2 * x3 ≤ x5
        · right
          rw [if_pos q, if_pos q]
          refine rh_core (bes := 2 ^ p) hl hc ok hM (Or.inr ⟨p, p1, p2, rfl, ?_⟩)
          obtain ⟨o1, o2, o3, o4, o5, o6, o7, o8, e1, e2, e3, e4⟩ := ok
          rw [e1, e2, e3, p2, qz_mul, qz_mul, qz_le (by omega) (by omega)] at q
          exact q
        · left
          rw [if_neg q, if_neg q]
          exact ⟨rfl, rfl⟩
    · right
      have hno : ¬ ((∃ w h d k, okX n x1 x2 x3 x4 w h d k) ∧ nI cu ≠ 0 ∧ T = 0) := fun q => hok ⟨q.1, (ri_cu hc).1 q.2.1, q.2.2⟩
      rw [cl_no hn hT60 hno, rl_no hn hT60 hM7 hok]
      exact ⟨-1, vws, kp, ypl, y1, y2, y3, y4, y5, R, M, cu, bt, cb, aI a0, aI l0, rfl, rfl, hl, Or.inr ⟨rfl, rfl⟩, Or.inl ⟨rfl, rfl, rfl, rfl⟩⟩
  unfold f_X4_lay f_X5_lay f_X5_lay_21
  by_cases e : x5 = -1
  · rw [if_pos e, if_pos e]
    exact Or.inr (hmain (Or.inl e))
  · rw [if_neg e, if_neg e]
    rcases rc_col (n := n) (x := x5) (by omega) with ⟨p, p1, p2, p3, p4⟩ | ⟨p3, p4⟩
    · rw [p3, p4, Option.bind_some, Option.bind_some]
      dsimp only [gx]
      rw [if_neg (show ¬ nI 1 = 0 by decide)]
      exact Or.inr (hmain (Or.inr ⟨p, p1, p2⟩))
    · rw [p3, p4, Option.bind_some, Option.bind_some]
      dsimp only [gx]
      rw [if_pos (show nI 0 = 0 from rfl)]
      unfold f_X5_lay_22
      rw [show f_X5_throwsIf th (1 : Int32) (1 : Int32) = some (nI 1, nI 1) from qr_throws1, Option.bind_some]
      dsimp only
      rw [if_neg (show ¬ nI 1 = 0 by decide)]
      exact Or.inl ⟨rfl, rfl⟩
