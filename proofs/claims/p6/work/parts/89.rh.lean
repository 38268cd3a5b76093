-- lay
def btL (bt : Nat → Nat) (R : Nat) (a : Nat → Nat) (bes k : Nat) : Nat → Nat := fun r => if R ≤ r ∧ r < R + k then a (r - R) ||| bes else bt r
theorem btL_0 (bt : Nat → Nat) (R : Nat) (a : Nat → Nat) (bes : Nat) : btL bt R a bes 0 = bt := by funext r; exact if_neg (fun h => by omega)
theorem btL_s (bt : Nat → Nat) (R : Nat) (a : Nat → Nat) (bes k : Nat) : updN (btL bt R a bes k) (R + k) (a k ||| bes) = btL bt R a bes (k + 1) := by
  funext r
  by_cases e : r = R + k
  · rw [e, updN_s]; unfold btL; rw [if_pos ⟨by omega, by omega⟩, Nat.add_sub_cancel_left]
  · rw [updN_n e]; unfold btL
    by_cases h : R ≤ r ∧ r < R + k
    · rw [if_pos h, if_pos ⟨h.1, by omega⟩]
    · rw [if_neg h, if_neg (fun q => h ⟨q.1, by omega⟩)]
theorem rl_row {n nd R x : Nat} {tm bt cl tk : Nat → Nat} (h : RLt n nd R 0 tm bt cl tk) (hR : R < 60) (hx : x < 2 ^ n) (hp : pc x 24 ≤ 8) : RLt n nd (R + 1) 0 tm (updN bt R x) cl tk := by
  obtain ⟨a1, a2, a3, a4⟩ := h
  refine ⟨TB_row a1 hR hx, fun j hj => a2 j (by omega), fun r => ?_, tk_0⟩
  by_cases e : r = R
  · rw [e, updN_s]; exact hp
  · rw [updN_n e]; exact a3 r
theorem rl_rows {n nd R bes : Nat} {tm bt cl tk a : Nat → Nat} (h : RLt n nd R 0 tm bt cl tk) (c : Nat) (hR : R + c ≤ 60) (ha : ∀ i, i < c → (a i ||| bes) < 2 ^ n ∧ pc (a i ||| bes) 24 ≤ 8) : ∀ k, k ≤ c → RLt n nd (R + k) 0 tm (btL bt R a bes k) cl tk
  | 0, _ => by rw [btL_0]; exact h
  | k + 1, hk => by
    have ih := rl_rows h c hR ha k (by omega)
    have hk2 := ha k (by omega)
    have := rl_row ih (by omega) hk2.1 hk2.2
    rwa [btL_s] at this
theorem rl_class {n nd R bes c : Nat} {tm bt cl tk a : Nat → Nat} {vws vcu : Int32} (h : RLt n nd R 0 tm bt cl tk) (hR : R + c ≤ 60) (ha : ∀ i, i < c → (a i ||| bes) < 2 ^ n ∧ pc (a i ||| bes) 24 ≤ 8) :
    f_X4_addLaidRows (nI n) (nI nd) (aI a) vws (nI R) (aI bt) (aI (ccF nd cl)) (aL (roF R bt)) (aL (csF n nd R bt cl)) vcu (nI c) (nI bes)
      = some ((if c = 0 then vws else nI 0), nI (R + c), aI (btL bt R a bes c), aI (ccF nd cl), aL (roF (R + c) (btL bt R a bes c)), aL (csF n nd (R + c) (btL bt R a bes c) cl), nI 0) := by
  have key : ∀ m k g, k + m = c → m < g → f_X4_addLaidRows_2 (nI n) (nI nd) (aI a) g vws (nI (R + k)) (aI (btL bt R a bes k)) (aI (ccF nd cl)) (aL (roF (R + k) (btL bt R a bes k))) (aL (csF n nd (R + k) (btL bt R a bes k) cl)) vcu (nI c) (nI bes) (nI k)
      = some ((if c = 0 then vws else nI 0), nI (R + c), aI (btL bt R a bes c), aI (ccF nd cl), aL (roF (R + c) (btL bt R a bes c)), aL (csF n nd (R + c) (btL bt R a bes c) cl), nI 0) := by
    intro m
    induction m with
    | zero =>
      intro k g hk hg
      obtain ⟨p, rfl, hp⟩ := qt_fuel hg
      have e : k = c := by omega
      subst e
      simp only [f_X4_addLaidRows_2, f_X4_addLaidRows_47, f_X0_clear]
      rw [if_pos (Int32.le_refl _), Option.bind_some]
      by_cases e : k = 0
      · rw [if_pos e, if_pos (show nI k ≤ (0 : Int32) by rw [e]; decide)]; rfl
      · rw [if_neg e, if_neg (show ¬ nI k ≤ (0 : Int32) by rw [qz_i0, qz_le (by omega) (by omega)]; omega)]; rfl
    | succ m ih =>
      intro k g hk hg
      obtain ⟨p, rfl, hp⟩ := qt_fuel hg
      have hstep := ih (k + 1) p (by omega) (by omega)
      have hrl := rl_rows h c hR ha k (by omega)
      have hak := ha k (by omega)
      have hadd := rc_addRowOf (x := a k ||| bes) hrl.1 hrl.2.1 (by omega) hak.1
      rw [btL_s] at hadd
      have hnk : ¬ nI c ≤ nI k := by rw [qz_le (by omega) (by omega)]; omega
      have hgd : ¬ (nI k < 0 ∨ 60 ≤ k) := by rw [qz_i0, qz_lt (by omega) (by omega)]; omega
      simp only [f_X4_addLaidRows_2]
      rw [if_neg hnk, qz_ix (k := k) (by omega), if_neg hgd, aI_ap, qz_or, hadd, Option.bind_some, qz_i1, qz_add]
      exact hstep
  have k0 := key c 0 1000000 (by omega) (by omega)
  rw [btL_0] at k0
  exact k0
theorem rl_ref {n nd R bes c : Nat} {tm bt cl tk a : Nat → Nat} {yn yT kp yM th x5 : Int32} {vcb : Nat → Int32} (h : RLt n nd R 0 tm bt cl tk) (hR : R + c ≤ 60) (ha : ∀ i, i < c → (a i ||| bes) < 2 ^ n ∧ pc (a i ||| bes) 24 ≤ 8) (hx : (x5 < 0 ∧ bes = 0) ∨ ∃ p, p < 24 ∧ x5 = nI p ∧ bes = 2 ^ p) :
    f_X5_lay_163 yn yT vcb 1000000 th (nI R) yM (nI c) kp (aI bt) (aI cl) (aI a) x5 (nI 0) = some (nI c, th, nI (R + c), nI 0, nI c, (if c = 0 then kp else nI 0), aI (btL bt R a bes c), aI cl, aI a) := by
  have key : ∀ m k g kp', k + m = c → m < g → kp' = (if k = 0 then kp else nI 0) → f_X5_lay_163 yn yT vcb g th (nI (R + k)) yM (nI c) kp' (aI (btL bt R a bes k)) (aI cl) (aI a) x5 (nI k) = some (nI c, th, nI (R + c), nI 0, nI c, (if c = 0 then kp else nI 0), aI (btL bt R a bes c), aI cl, aI a) := by
    intro m
    induction m with
    | zero =>
      intro k g kp' hk hg hkp
      obtain ⟨p, rfl, hp⟩ := qt_fuel hg
      have e : k = c := by omega
      subst e
      simp only [f_X5_lay_163]
      rw [if_pos (Int32.le_refl _), hkp]
      rfl
    | succ m ih =>
      intro k g kp' hk hg hkp
      obtain ⟨p, rfl, hp⟩ := qt_fuel hg
      have hstep := ih (k + 1) p (nI 0) (by omega) (by omega) (by rw [if_neg (by omega)])
      have hrl := rl_rows h c hR ha k (by omega)
      have hadd := rc_addRow (R := R + k) (x := a k ||| bes) (kp := kp') (bt := btL bt R a bes k) (cl := cl) hrl.2.1 (by omega)
      rw [btL_s] at hadd
      have hnk : ¬ nI c ≤ nI k := by rw [qz_le (by omega) (by omega)]; omega
      have hgd : ¬ (nI k < 0 ∨ 60 ≤ k) := by rw [qz_i0, qz_lt (by omega) (by omega)]; omega
      simp only [f_X5_lay_163, f_X5_lay_193]
      rw [if_neg hnk, qz_ix (k := k) (by omega), if_neg hgd, aI_ap]
      rcases hx with ⟨x1, x2⟩ | ⟨q, q1, q2, q3⟩
      · subst x2
        rw [if_pos x1, show (0 : Int32) = nI 0 from rfl, qz_or, hadd, Option.bind_some, qz_i1, qz_add]
        exact hstep
      · subst q2
        have hbes : (1 : Int32) <<< (nI q &&& 31) = nI bes := by
          rw [q3]
          simp (disch := omega) only [qz_i0, qz_i1, qz_i2, qz_i3, qz_i4, qz_i5, qz_i6, qz_i7, qz_i8, qz_i9, qz_i24, qz_i27, qz_i31, qz_i60, qz_i61, qz_i100, qz_i101, qz_i50000, qz_i100000, ql_i0, ql_i1, ql_i63, ql_m1, qz_m1, qz_le, qz_lt, qz_eq, qz_add, qz_mul, qz_sub, qz_an, qz_ix, qz_and, qz_or, qz_shl, qz_shr, qz_andn, ql_eq, ql_and, ql_or, ql_shl, ql_shr, ql_andn, ql_of, qz_k31, qz_k63, qz_bit, qz_b0, qz_b1, ql_b0, ql_b1, lg_0, qz_gd, Nat.one_shiftLeft, aI_ap, aL_ap, upd_aI, upd_aL, aV_ap, upd_aV, upd_aVm]
        rw [if_neg (show ¬ nI q < 0 by rw [qz_i0, qz_lt (by omega) (by omega)]; omega), hbes, qz_or, hadd, Option.bind_some, qz_i1, qz_add]
        exact hstep
  have k0 := key c 0 1000000 kp (by omega) (by omega) (by rw [if_pos rfl])
  rw [btL_0] at k0
  exact k0
theorem pc_orle {x r : Nat} (n : Nat) : pc (x ||| 2 ^ r) n ≤ pc x n + 1 := by
  by_cases h : x.testBit r = true
  · have : pc (x ||| 2 ^ r) n = pc x n := pc_congr (fun i _ => by
      rw [tb_or2]
      by_cases e : r = i
      · rw [← e, h]; rfl
      · rw [decide_eq_false e, Bool.or_false])
    omega
  · have h' : x.testBit r = false := by simpa using h
    by_cases e : r < n
    · rw [pc_orb e h']; omega
    · have : pc (x ||| 2 ^ r) n = pc x n := pc_congr (fun i hi => by rw [tb_or2, decide_eq_false (by omega), Bool.or_false])
      omega
theorem imS_cnt (rho : Nat → Nat) (W n : Nat) : ∀ k, pc (imS rho W k) n ≤ k
  | 0 => by
    rw [imS]
    have : pc 0 n = 0 := by
      have := pc_hi (x := 0) (a := 0) (fun i _ => Nat.zero_testBit i) n
      omega
    omega
  | k + 1 => by
    rw [imS]
    have ih := imS_cnt rho W n k
    by_cases h : W.testBit k = true
    · rw [if_pos h]
      have := pc_orle (x := imS rho W k) (r := rho k) n
      omega
    · rw [if_neg h, Nat.or_zero]; omega
theorem alR_ok {cb : Nat → Nat} {M w h d ki y n : Nat} (hM : M ≤ 7) (hn : w * h * d ≤ n) (hy : alR cb M w h d ki y) : y < 2 ^ (w * h * d) ∧ pc y 24 ≤ 7 := by
  obtain ⟨f, _, s, _, _, ez, _, ey, _, ex, _, hv⟩ := hy
  unfold vaR at hv
  by_cases e : allK (fun k => inR f s w h d ex ey ez (cb k)) M 0 = true
  · rw [if_pos e] at hv
    have hv' := (Nat.succ.inj hv).symm
    subst hv'
    refine ⟨Nat.lt_pow_two_of_testBit _ (fun i hi => ?_), Nat.le_trans (imS_cnt _ _ _ _) hM⟩
    cases q : (imS (fun k => ixR f s w h ex ey ez (cb k)) (2 ^ M - 1) M).testBit i
    · rfl
    · obtain ⟨r, r1, r2, r3⟩ := (imS_tb _ _ _ _).1 q
      rw [allK_iff] at e
      have e2 := e r (Nat.zero_le _) (by omega)
      unfold inR at e2
      rw [decide_eq_true_iff] at e2
      have := ix_lt (w := w) (h := h) (d := d) (x := reN (cb r) f s 0 + ex - 4) (y := reN (cb r) f s 1 + ey - 4) (z := reN (cb r) f s 2 + ez - 4) (by omega) (by omega) (by omega)
      have r3' : ixR f s w h ex ey ez (cb r) = i := r3
      unfold ixR at r3'
      omega
  · rw [if_neg e] at hv; cases hv
/-- the box and the turns are as the document has them -/
def okX (n : Nat) (x1 x2 x3 x4 : Int32) (w h d k : Nat) : Prop := 1 ≤ w ∧ w ≤ 24 ∧ 1 ≤ h ∧ h ≤ 24 ∧ 1 ≤ d ∧ d ≤ 24 ∧ w * h * d ≤ n ∧ k < 4 ∧ x1 = nI w ∧ x2 = nI h ∧ x3 = nI d ∧ x4 = nI k
theorem ok_le {w h d n : Nat} (hw : 1 ≤ w) (hh : 1 ≤ h) (hd : 1 ≤ d) (h3 : w * h * d ≤ n) : w ≤ n ∧ h ≤ n ∧ d ≤ n := by
  have a1 : w * 1 ≤ w * h := Nat.mul_le_mul_left w hh
  have a2 : 1 * h ≤ w * h := Nat.mul_le_mul_right h hw
  have a3 : w * h * 1 ≤ w * h * d := Nat.mul_le_mul_left _ hd
  have a4 : 1 * d ≤ w * h * d := Nat.mul_le_mul_right d (Nat.mul_pos hw hh)
  omega
theorem i1_cases {x : Int32} {n : Nat} (hn : n < 2147483647) (h1 : ¬ x < 1) (h2 : ¬ nI n < x) : ∃ w, 1 ≤ w ∧ w ≤ n ∧ x = nI w := by
  rcases pk_ix x (n := n + 1) (by omega) with q | q | ⟨w, w1, w2⟩
  · exact absurd (Int32.lt_trans q (by decide)) h1
  · refine absurd (Int32.lt_of_lt_of_le ?_ q) h2
    rw [qz_lt (by omega) (by omega)]; omega
  · refine ⟨w, Nat.le_of_not_lt (fun z => h1 ?_), by omega, w2⟩
    rw [w2, qz_i1, qz_lt (by omega) (by omega)]; exact z
theorem i4_cases {x : Int32} (h1 : ¬ x < 0) (h2 : ¬ (3 : Int32) < x) : ∃ k, k < 4 ∧ x = nI k := by
  rcases pk_ix x (n := 4) (by decide) with q | q | q
  · exact absurd q h1
  · exact absurd (Int32.lt_of_lt_of_le (by decide) q) h2
  · exact q
theorem hb_yes {n w h d : Nat} {x1 x2 x3 x4 : Int32} {k : Nat} (hn : n ≤ 24) (ok : okX n x1 x2 x3 x4 w h d k) : f_X2_holdsBox (nI n) x1 x2 x3 = some (nI 1, ()) := by
  obtain ⟨o1, o2, o3, o4, o5, o6, o7, o8, e1, e2, e3, e4⟩ := ok
  subst e1 e2 e3
  have hl := ok_le o1 o3 o5 o7
  unfold f_X2_holdsBox f_X2_holdsBox_56
  simp (disch := omega) only [qz_i0, qz_i1, qz_i2, qz_i3, qz_i4, qz_i5, qz_i6, qz_i7, qz_i8, qz_i9, qz_i24, qz_i27, qz_i31, qz_i60, qz_i61, qz_i100, qz_i101, qz_i50000, qz_i100000, ql_i0, ql_i1, ql_i63, ql_m1, qz_m1, qz_le, qz_lt, qz_eq, qz_add, qz_mul, qz_sub, qz_an, qz_ix, qz_and, qz_or, qz_shl, qz_shr, qz_andn, ql_eq, ql_and, ql_or, ql_shl, ql_shr, ql_andn, ql_of, qz_k31, qz_k63, qz_bit, qz_b0, qz_b1, ql_b0, ql_b1, lg_0, qz_gd, Nat.one_shiftLeft, aI_ap, aL_ap, upd_aI, upd_aL, aV_ap, upd_aV, upd_aVm]
  rw [if_neg (by omega), if_neg (by omega), if_neg (by omega), if_neg (by omega), if_neg (by omega), if_neg (by omega), if_neg (by omega), if_neg (by decide)]
theorem hb_no {n : Nat} {x1 x2 x3 : Int32} (hn : n ≤ 24) (hno : ¬ ∃ w h d, 1 ≤ w ∧ w ≤ 24 ∧ 1 ≤ h ∧ h ≤ 24 ∧ 1 ≤ d ∧ d ≤ 24 ∧ w * h * d ≤ n ∧ x1 = nI w ∧ x2 = nI h ∧ x3 = nI d) : f_X2_holdsBox (nI n) x1 x2 x3 = some (nI 0, ()) := by
  unfold f_X2_holdsBox f_X2_holdsBox_55 f_X2_holdsBox_56
  rw [if_neg (show ¬ ¬ ((0 : Int32) = 0 ∨ (0 : Int32) = 1) by decide)]
  by_cases a1 : x1 < (1 : Int32)
  · rw [if_pos a1]; rfl
  · rw [if_neg a1]
    by_cases a2 : x2 < (1 : Int32)
    · rw [if_pos a2]; rfl
    · rw [if_neg a2]
      by_cases a3 : x3 < (1 : Int32)
      · rw [if_pos a3]; rfl
      · rw [if_neg a3]
        by_cases a4 : nI n < x1
        · rw [if_pos a4]; rfl
        · rw [if_neg a4]
          by_cases a5 : nI n < x2
          · rw [if_pos a5]; rfl
          · rw [if_neg a5]
            by_cases a6 : nI n < x3
            · rw [if_pos a6]; rfl
            · rw [if_neg a6]
              obtain ⟨w, w1, w2, w3⟩ := i1_cases (by omega) a1 a4
              obtain ⟨h, h1, h2, h3⟩ := i1_cases (by omega) a2 a5
              obtain ⟨d, d1, d2, d3⟩ := i1_cases (by omega) a3 a6
              subst w3 h3 d3
              have hb : w * h ≤ 24 * 24 := Nat.mul_le_mul (by omega) (by omega)
              have hb2 : w * h * d ≤ 24 * 24 * 24 := Nat.mul_le_mul hb (by omega)
              rw [if_pos (show nI n < nI w * nI h * nI d by
                rw [qz_mul, qz_mul, qz_lt (by omega) (by omega)]
                exact Nat.lt_of_not_le (fun z => hno ⟨w, h, d, w1, by omega, h1, by omega, d1, by omega, z, rfl, rfl, rfl⟩))]
              rfl
theorem cl_no {n nd R T cu : Nat} {bt cl a0 : Nat → Nat} {vws y1 y2 y3 y4 y5 : Int32} {x1 x2 x3 x4 x5 : Int32} (hn : n ≤ 24) (hT60 : T ≤ 60) (hno : ¬ ((∃ w h d k, okX n x1 x2 x3 x4 w h d k) ∧ nI cu ≠ 0 ∧ T = 0)) :
    f_X4_lay_12 (nI T) (nI n) (nI nd) vws (nI R) (aI bt) (aI (ccF nd cl)) (aL (roF R bt)) (aL (csF n nd R bt cl)) (nI cu) y1 y2 y3 y4 y5 (aI a0) x1 x2 x3 x4 x5 = some (.inl (-1, vws, nI R, aI bt, aI (ccF nd cl), aL (roF R bt), aL (csF n nd R bt cl), nI cu, y1, y2, y3, y4, y5, aI a0)) := by
  unfold f_X4_lay_12 f_X4_lay_40 f_X4_lay_41 f_X4_lay_65 f_X0_isEmpty f_X0_isEmpty_12
  by_cases hb : ∃ w h d, 1 ≤ w ∧ w ≤ 24 ∧ 1 ≤ h ∧ h ≤ 24 ∧ 1 ≤ d ∧ d ≤ 24 ∧ w * h * d ≤ n ∧ x1 = nI w ∧ x2 = nI h ∧ x3 = nI d
  · obtain ⟨w, h, d, b1, b2, b3, b4, b5, b6, b7, b8, b9, b10⟩ := hb
    rw [hb_yes (k := 0) (x4 := nI 0) hn ⟨b1, b2, b3, b4, b5, b6, b7, by decide, b8, b9, b10, rfl⟩, Option.bind_some]
    dsimp only
    rw [if_neg (show ¬ nI 1 = 0 by decide)]
    by_cases a1 : x4 < 0
    · rw [if_pos a1]; rfl
    · rw [if_neg a1]
      by_cases a2 : (3 : Int32) < x4
      · rw [if_pos a2]; rfl
      · rw [if_neg a2, if_neg (show ¬ (1 : Int32) = 0 by decide)]
        obtain ⟨k, k1, k2⟩ := i4_cases a1 a2
        by_cases a3 : nI cu = 0
        · rw [if_pos a3]; rfl
        · rw [if_neg a3]
          have hT0 : T ≠ 0 := fun z => hno ⟨⟨w, h, d, k, b1, b2, b3, b4, b5, b6, b7, k1, b8, b9, b10, k2⟩, a3, z⟩
          have g : ¬ nI T ≤ (0 : Int32) := by rw [qz_i0, qz_le (by omega) (by omega)]; omega
          rw [if_neg (show ¬ ¬ ((0 : Int32) = 0 ∨ (0 : Int32) = 1) by decide), Option.bind_some]
          dsimp only
          rw [if_pos (show (0 : Int32) = 0 from rfl), if_neg g]
  · rw [hb_no hn hb, Option.bind_some]
    rfl
theorem rl_no {n R T M : Nat} {bt cl cb l0 : Nat → Nat} {th kp ypl : Int32} {x1 x2 x3 x4 x5 : Int32} (hn : n ≤ 24) (hT60 : T ≤ 60) (hM7 : M ≤ 7) (hno : ¬ ((∃ w h d k, okX n x1 x2 x3 x4 w h d k) ∧ M ≠ 0 ∧ T = 0)) :
    f_X5_lay_22 (nI n) (nI T) (aI cb) th (nI R) (nI M) ypl kp (aI bt) (aI cl) (aI l0) x1 x2 x3 x4 x5 (nI 0) (nI 1) = some (-1, nI 0, nI R, nI M, ypl, kp, aI bt, aI cl, aI l0) := by
  unfold f_X5_lay_22 f_X5_lay_100
  rw [qr_throws0, Option.bind_some]
  dsimp only
  rw [if_pos (show nI 0 = 0 from rfl)]
  by_cases a1 : x1 < (1 : Int32)
  · rw [if_pos a1]
  · rw [if_neg a1]
    by_cases a2 : x2 < (1 : Int32)
    · rw [if_pos a2]
    · rw [if_neg a2]
      by_cases a3 : x3 < (1 : Int32)
      · rw [if_pos a3]
      · rw [if_neg a3]
        by_cases a4 : (24 : Int32) < x1
        · rw [if_pos a4]
        · rw [if_neg a4]
          by_cases a5 : (24 : Int32) < x2
          · rw [if_pos a5]
          · rw [if_neg a5]
            by_cases a6 : (24 : Int32) < x3
            · rw [if_pos a6]
            · rw [if_neg a6]
              obtain ⟨w, w1, w2, w3⟩ := i1_cases (n := 24) (by omega) a1 a4
              obtain ⟨h, h1, h2, h3⟩ := i1_cases (n := 24) (by omega) a2 a5
              obtain ⟨d, d1, d2, d3⟩ := i1_cases (n := 24) (by omega) a3 a6
              subst w3 h3 d3
              have hb : w * h ≤ 24 * 24 := Nat.mul_le_mul w2 h2
              have hb2 : w * h * d ≤ 24 * 24 * 24 := Nat.mul_le_mul hb d2
              by_cases a7 : nI n < nI w * nI h * nI d
              · rw [if_pos a7]
              · rw [if_neg a7]
                by_cases a8 : x4 < 0
                · rw [if_pos a8]
                · rw [if_neg a8]
                  by_cases a9 : (3 : Int32) < x4
                  · rw [if_pos a9]
                  · rw [if_neg a9]
                    obtain ⟨k, k1, k2⟩ := i4_cases a8 a9
                    rw [qz_mul, qz_mul, qz_lt (by omega) (by omega)] at a7
                    by_cases a10 : nI M = 0
                    · rw [if_pos a10]
                    · rw [if_neg a10]
                      have hM0 : M ≠ 0 := fun z => a10 (by rw [z]; rfl)
                      have hT0 : T ≠ 0 := fun z => hno ⟨⟨w, h, d, k, w1, w2, h1, h2, d1, d2, by omega, k1, rfl, rfl, rfl, k2⟩, hM0, z⟩
                      have g : ¬ nI T ≤ (0 : Int32) := by rw [qz_i0, qz_le (by omega) (by omega)]; omega
                      rw [if_neg g]
/-- the outcome when the call is let through -/
def laD (n nd R T M cu : Nat) (tm bt cl tk cb : Nat → Nat) (vws kp : Int32) (f : Option ((Int32 × Int32 × Int32 × (Nat → Int32) × (Nat → Int32) × (Nat → Int64) × (Nat → Int64) × Int32 × Int32 × Int32 × Int32 × Int32 × Int32 × (Nat → Int32)) ⊕ (String × (Int32 × Int32 × (Nat → Int32) × (Nat → Int32) × (Nat → Int64) × (Nat → Int64) × Int32 × Int32 × Int32 × Int32 × Int32 × Int32 × (Nat → Int32))))) (g : Option (Int32 × Int32 × Int32 × Int32 × Int32 × Int32 × (Nat → Int32) × (Nat → Int32) × (Nat → Int32))) : Prop :=
  ∃ (y vws' kp' ypl' z1 z2 z3 z4 z5 : Int32) (R' M' cu' : Nat) (bt' cb' : Nat → Nat) (v1 v2 : Nat → Int32),
    f = some (.inl (y, vws', nI R', aI bt', aI (ccF nd cl), aL (roF R' bt'), aL (csF n nd R' bt' cl), nI cu', z1, z2, z3, z4, z5, v1)) ∧ g = some (y, nI 0, nI R', nI M', ypl', kp', aI bt', aI cl, v2) ∧ RLt n nd R' T tm bt' cl tk ∧ (M' = 0 ∧ cu' = 0 ∨ M' = M ∧ cu' = cu) ∧ ((vws' = vws ∧ kp' = kp ∧ R' = R ∧ bt' = bt) ∨ (vws' = nI 0 ∧ kp' = nI 0))
theorem rh_core {n nd R M cu : Nat} {tm bt cl tk cb a0 l0 : Nat → Nat} {vws th kp ypl y1 y2 y3 y4 y5 : Int32} {x1 x2 x3 x4 x5 : Int32} {w h d k bes : Nat} (hl : RLt n nd R 0 tm bt cl tk) (hc : RLc M cb cu) (ok : okX n x1 x2 x3 x4 w h d k) (hM : M ≠ 0) (hx5 : (x5 = -1 ∧ bes = 0) ∨ ∃ p, p < n ∧ x5 = nI p ∧ bes = 2 ^ p ∧ w * h * d ≤ p) :
    laD n nd R 0 M cu tm bt cl tk cb vws kp (f_X4_lay_93 (nI 0) (nI n) (nI nd) vws (nI R) (aI bt) (aI (ccF nd cl)) (aL (roF R bt)) (aL (csF n nd R bt cl)) (nI cu) y1 y2 y3 y4 y5 (aI a0) x1 x2 x3 x4 x5) (f_X5_lay_123 (nI n) (nI 0) (aI cb) th (nI R) (nI M) ypl kp (aI bt) (aI cl) (aI l0) x1 x2 x3 x4 x5 (nI 2)) := by
  have hn := hl.1.2.1
  have hR := hl.1.2.2.2.1
  obtain ⟨c1, c2, c3, c4, c5⟩ := hc
  obtain ⟨o1, o2, o3, o4, o5, o6, o7, o8, e1, e2, e3, e4⟩ := ok
  subst e1 e2 e3 e4
  have h27 : cu < 2147483648 := Nat.lt_trans c5 (by decide)
  obtain ⟨x, x1', c, s, a, hx, ho⟩ := qf_findSets (y1 := y4) (y2 := y5) (a0 := a0) h27 o2 o4 o6 (by omega) (show 60 - R ≤ 60 by omega) o8
  obtain ⟨y, y1', c', a', hy, ho'⟩ := qh_layAll (y1 := ypl) (a0 := l0) c1 c2 o8 o2 o4 o6 (show w * h * d ≤ 24 by omega)
  have hset := fun v => qe_same (cu := cu) (cb := cb) (M := M) (w := w) (h := h) (d := d) (ki := k) (by omega) c2 c3 o8 v
  have hroom : (60 : Int32) - nI R = nI (60 - R) := by rw [qz_i60, qz_sub (by omega)]
  have hthr : ∀ th : Int32, f_X5_throwsIf th (nI 2) (0 : Int32) = some (nI 0, nI 0) := fun th => qr_throws0
  unfold f_X4_lay_93 f_X0_chooseBox f_X2_room f_X4_lay_145 f_X5_lay_123 f_X5_lay_124 f_X5_lay_158
  rw [Option.bind_some, Option.bind_some, hroom]
  dsimp only
  rw [x1', Option.bind_some, hx, hthr, Option.bind_some]
  dsimp only
  rw [if_pos (show nI 0 = 0 from rfl), y1', Option.bind_some]
  obtain ⟨g1, g2, g3, g4, g5, g6⟩ := ho
  obtain ⟨yy, c'', a''⟩ := y
  cases hy
  cases hs : s
  · -- there is room
    have g5' := g5 hs
    rw [if_neg (show ¬ ((false : Bool) = true) by decide)]
    have hall : ∀ v, meA a c v ↔ alR cb M w h d k v := fun v => ⟨fun q => (hset v).1 (g4 v q), fun q => g5' v ((hset v).2 q)⟩
    have hcle : nI 0 ≤ nI c := by rw [qz_le (by omega) (by omega)]; omega
    rcases ho' with ⟨q1, q2⟩ | ⟨q1, b, b1, b2⟩
    · obtain ⟨k1, k2, k3, k4, k5, k6⟩ := q2
      have hall' : ∀ v, meA a' c' v ↔ alR cb M w h d k v := fun v => ⟨k4 v, k5 rfl v⟩
      obtain ⟨s1, s2⟩ := ss_same g2 k2 (fun v => (hall v).trans (hall' v).symm)
      subst s1
      have hq1 : yy = nI 1 := q1
      subst hq1
      have hbes24 : bes < 2 ^ n ∧ ∀ v, v < 2 ^ (w * h * d) → pc v 24 ≤ 7 → (v ||| bes) < 2 ^ n ∧ pc (v ||| bes) 24 ≤ 8 := by
        rcases hx5 with ⟨z1, z2⟩ | ⟨p, p1, p2, p3, p4⟩
        · subst z2
          refine ⟨Nat.two_pow_pos n, fun v v1 v2 => ?_⟩
          rw [Nat.or_zero]
          exact ⟨Nat.lt_of_lt_of_le v1 (Nat.pow_le_pow_right (by decide) o7), by omega⟩
        · subst p3
          refine ⟨Nat.pow_lt_pow_right (by decide) p1, fun v v1 v2 => ⟨Nat.or_lt_two_pow (Nat.lt_of_lt_of_le v1 (Nat.pow_le_pow_right (by decide) o7)) (Nat.pow_lt_pow_right (by decide) p1), ?_⟩⟩
          have := pc_orle (x := v) (r := p) 24
          omega
      have ha : ∀ i, i < c → (a i ||| bes) < 2 ^ n ∧ pc (a i ||| bes) 24 ≤ 8 := fun i hi => by
        have q := alR_ok c1 o7 ((hall _).1 ⟨i, hi, rfl⟩)
        exact hbes24.2 _ q.1 q.2
      have ha' : ∀ i, i < c → (a' i ||| bes) < 2 ^ n ∧ pc (a' i ||| bes) 24 ≤ 8 := fun i hi => by
        rw [← s2 i hi]; exact ha i hi
      have hbt : btL bt R a bes c = btL bt R a' bes c := by
        funext r
        unfold btL
        by_cases q : R ≤ r ∧ r < R + c
        · rw [if_pos q, if_pos q, s2 _ (by omega)]
        · rw [if_neg q, if_neg q]
      have hcl := rl_class (vws := vws) (vcu := nI cu) (c := c) hl (by omega) ha
      have hrf := rl_ref (yn := nI n) (yT := nI 0) (kp := kp) (yM := nI M) (th := nI 0) (x5 := x5) (vcb := aI cb) (c := c) hl (by omega) ha' (by
        rcases hx5 with ⟨z1, z2⟩ | ⟨p, p1, p2, p3, p4⟩
        · exact Or.inl ⟨by rw [z1]; decide, z2⟩
        · exact Or.inr ⟨p, by omega, p2, p3⟩)
      have hle60 : nI R + nI c ≤ (60 : Int32) := by rw [qz_add, qz_i60, qz_le (by omega) (by omega)]; omega
      dsimp only
      rw [if_neg (show ¬ nI 1 = 0 by decide), if_pos hle60]
      rw [if_pos (show (0 : Int32) ≤ nI c from hcle)]
      have hclass : ∀ bv : Int32, bv = nI bes → ((f_X4_addLaidRows (nI n) (nI nd) (aI a) vws (nI R) (aI bt) (aI (ccF nd cl)) (aL (roF R bt)) (aL (csF n nd R bt cl)) (nI cu) (nI c) bv)) = some ((if c = 0 then vws else nI 0), nI (R + c), aI (btL bt R a bes c), aI (ccF nd cl), aL (roF (R + c) (btL bt R a bes c)), aL (csF n nd (R + c) (btL bt R a bes c) cl), nI 0) := fun bv hbv => by rw [hbv]; exact hcl
      refine ⟨nI c, (if c = 0 then vws else nI 0), (if c = 0 then kp else nI 0), nI c, nI w, nI h, nI d, nI c, nI (Bool.toNat false), R + c, 0, 0, btL bt R a bes c, cb, aI a, aI a', ?_, ?_, rl_rows hl c (by omega) ha c (Nat.le_refl _), Or.inl ⟨rfl, rfl⟩, ?_⟩
      · rcases hx5 with ⟨z1, z2⟩ | ⟨p, p1, p2, p3, p4⟩
        · rw [if_pos z1, hclass 0 (by rw [z2]; rfl), Option.bind_some]
        · have hne : ¬ x5 = -1 := fun z => by
            rw [p2] at z
            have := congrArg Int32.toInt z
            rw [nI_toInt (by omega), show (-1 : Int32).toInt = -1 by decide] at this
            omega
          rw [if_neg hne, hclass _ (by
            rw [p2, p3]
            simp (disch := omega) only [qz_i0, qz_i1, qz_i2, qz_i3, qz_i4, qz_i5, qz_i6, qz_i7, qz_i8, qz_i9, qz_i24, qz_i27, qz_i31, qz_i60, qz_i61, qz_i100, qz_i101, qz_i50000, qz_i100000, ql_i0, ql_i1, ql_i63, ql_m1, qz_m1, qz_le, qz_lt, qz_eq, qz_add, qz_mul, qz_sub, qz_an, qz_ix, qz_and, qz_or, qz_shl, qz_shr, qz_andn, ql_eq, ql_and, ql_or, ql_shl, ql_shr, ql_andn, ql_of, qz_k31, qz_k63, qz_bit, qz_b0, qz_b1, ql_b0, ql_b1, lg_0, qz_gd, Nat.one_shiftLeft, aI_ap, aL_ap, upd_aI, upd_aL, aV_ap, upd_aV, upd_aVm]), Option.bind_some]
      · rw [show (0 : Int32) = nI 0 from rfl, hrf, hbt]
      · by_cases q : c = 0
        · left
          rw [if_pos q, if_pos q]
          refine ⟨rfl, rfl, by omega, ?_⟩
          rw [q, btL_0]
        · right
          rw [if_neg q, if_neg q]
          exact ⟨rfl, rfl⟩
    · exfalso
      have := ss_len g2 b1 (fun j hj => (hall _).2 (b2 j hj))
      omega
  · -- there is none
    obtain ⟨b, b1, b2⟩ := g6 hs
    rw [if_pos rfl]
    dsimp only
    rw [if_neg (show ¬ (0 : Int32) ≤ -1 by decide)]
    rcases ho' with ⟨q1, q2⟩ | ⟨q1, _⟩
    · obtain ⟨k1, k2, k3, k4, k5, k6⟩ := q2
      have hq1 : yy = nI 1 := q1
      subst hq1
      have := ss_len k2 b1 (fun j hj => k5 rfl _ ((hset _).1 (b2 j hj)))
      rw [if_neg (show ¬ nI 1 = 0 by decide), if_neg (show ¬ nI R + nI c' ≤ (60 : Int32) by rw [qz_add, qz_i60, qz_le (by omega) (by omega)]; omega)]
      exact ⟨-1, vws, kp, nI c', nI w, nI h, nI d, nI c, nI (Bool.toNat true), R, M, cu, bt, cb, aI a, aI a', rfl, rfl, hl, Or.inr ⟨rfl, rfl⟩, Or.inl ⟨rfl, rfl, rfl, rfl⟩⟩
    · have hq1 : yy = nI 0 := q1
      subst hq1
      rw [if_pos (show nI 0 = 0 from rfl)]
      exact ⟨-1, vws, kp, nI c', nI w, nI h, nI d, nI c, nI (Bool.toNat true), R, M, cu, bt, cb, aI a, aI a', rfl, rfl, hl, Or.inr ⟨rfl, rfl⟩, Or.inl ⟨rfl, rfl, rfl, rfl⟩⟩
