-- times, row, entry, cube, turn, exchange, untake
def RLt (n nd R T : Nat) (tm bt cl tk : Nat → Nat) : Prop := TB n nd R tm bt cl ∧ (∀ j, 24 * R ≤ j → cl j = 0) ∧ (∀ r, pc (bt r) 24 ≤ 8) ∧ tkOk n nd R tm bt cl tk T
def RLc (M : Nat) (cb : Nat → Nat) (cu : Nat) : Prop := M ≤ 7 ∧ (∀ k, k < M → cb k < 27) ∧ (∀ c, cu.testBit c = true ↔ ∃ k, k < M ∧ cb k = c) ∧ pc cu 32 = M ∧ cu < 2 ^ 27
def RLg (n K : Nat) (go : Nat → Nat) : Prop := K ≤ 8 ∧ ∀ t, t < K → goP n (fun c => go (24 * t + c))
theorem tk_0 {n nd R : Nat} {tm bt cl tk : Nat → Nat} : tkOk n nd R tm bt cl tk 0 := fun k hk => by omega
theorem du_upd {nd c k : Nat} {tm : Nat → Nat} (h : c < nd) : updN (duF nd tm) c k = duF nd (updN tm c k) := by
  funext j
  by_cases e : j = c
  · subst e; rw [updN_s]; unfold duF; rw [if_pos h, updN_s]
  · rw [updN_n e]; unfold duF; rw [updN_n e]
theorem rd_times {n nd R T : Nat} {tm bt cl tk : Nat → Nat} {vws th kp : Int32} (h : RLt n nd R T tm bt cl tk) (x1 x2 : Int32) :
    (f_X4_times (nI T) (nI n) (nI nd) vws (aI (duF nd tm)) x1 x2 = some (.inr (RJx00060, vws, aI (duF nd tm))) ∧ f_X5_times (nI n) (nI nd) (nI T) th kp (aI tm) x1 x2 = some (nI 0, nI 1, kp, aI tm)) ∨
    (f_X4_times (nI T) (nI n) (nI nd) vws (aI (duF nd tm)) x1 x2 = some (.inl (nI 0, vws, aI (duF nd tm))) ∧ f_X5_times (nI n) (nI nd) (nI T) th kp (aI tm) x1 x2 = some (nI 0, nI 0, kp, aI tm)) ∨
    ∃ tm', f_X4_times (nI T) (nI n) (nI nd) vws (aI (duF nd tm)) x1 x2 = some (.inl (nI 1, nI 0, aI (duF nd tm'))) ∧ f_X5_times (nI n) (nI nd) (nI T) th kp (aI tm) x1 x2 = some (nI 1, nI 0, nI 0, aI tm') ∧ RLt n nd R T tm' bt cl tk := by
  obtain ⟨hT, hz, hp, hk⟩ := h
  have hn := hT.2.1
  have hnd := hT.2.2.1
  have h60 := TS_60 hT.2.2.2.1 hk
  unfold f_X4_times f_X4_times_33 f_X5_times f_X5_times_15 f_X5_times_46
  rcases rc_col (n := n) (x := x1) (by omega) with ⟨c, c1, c2, c3, c4⟩ | ⟨c3, c4⟩
  · subst c2
    rw [c3, c4, Option.bind_some, Option.bind_some]
    dsimp only [gx]
    rw [if_neg (show ¬ nI 1 = 0 by decide), qz_i0, qz_i1, qr_throws0, Option.bind_some, qt_isNeeded (by omega) (by omega), Option.bind_some]
    dsimp only
    rw [if_pos (show nI 0 = nI 0 from rfl)]
    by_cases e1 : x2 < nI 1
    · rw [if_pos e1, if_pos e1]; exact Or.inr (Or.inl ⟨rfl, rfl⟩)
    · rw [if_neg e1, if_neg e1]
      by_cases e2 : (3 : Int32) < x2
      · rw [if_pos e2, if_pos e2]; exact Or.inr (Or.inl ⟨rfl, rfl⟩)
      · rw [if_neg e2, if_neg e2]
        by_cases e3 : c < nd
        · have hcn : ¬ nI nd ≤ nI c := by rw [qz_le (by omega) (by omega)]; omega
          rw [decide_eq_true e3, if_neg (show ¬ nI (Bool.toNat true) = nI 0 by decide), if_neg hcn]
          by_cases e4 : T = 0
          · subst e4
            rw [if_pos (Int32.le_refl _), if_pos (Int32.le_refl _)]
            have hx : ∃ k, k < 4 ∧ x2 = nI k := by
              rcases pk_ix x2 (n := 4) (by decide) with q | q | q
              · exact absurd (Int32.lt_trans q (by decide)) e1
              · exact absurd (Int32.lt_of_lt_of_le (by decide) q) e2
              · exact q
            obtain ⟨k, k1, k2⟩ := hx
            subst k2
            have k3 : 1 ≤ k := by
              refine Nat.le_of_not_lt (fun q => e1 ?_)
              rw [qz_lt (by omega) (by omega)]; exact q
            right; right
            refine ⟨updN tm c k, ?_, ?_, ⟨?_, hz, hp, tk_0⟩⟩
            · simp (disch := omega) only [qz_i0, qz_i1, qz_i2, qz_i3, qz_i4, qz_i5, qz_i6, qz_i7, qz_i8, qz_i9, qz_i24, qz_i27, qz_i31, qz_i60, qz_i61, qz_i100, qz_i101, qz_i50000, qz_i100000, ql_i0, ql_i1, ql_i63, ql_m1, qz_m1, qz_le, qz_lt, qz_eq, qz_add, qz_mul, qz_sub, qz_an, qz_ix, qz_and, qz_or, qz_shl, qz_shr, qz_andn, ql_eq, ql_and, ql_or, ql_shl, ql_shr, ql_andn, ql_of, qz_k31, qz_k63, qz_bit, qz_b0, qz_b1, ql_b0, ql_b1, lg_0, qz_gd, Nat.one_shiftLeft, aI_ap, aL_ap, upd_aI, upd_aL, aV_ap, upd_aV, upd_aVm, du_upd e3]
            · simp (disch := omega) only [qz_i0, qz_i1, qz_i2, qz_i3, qz_i4, qz_i5, qz_i6, qz_i7, qz_i8, qz_i9, qz_i24, qz_i27, qz_i31, qz_i60, qz_i61, qz_i100, qz_i101, qz_i50000, qz_i100000, ql_i0, ql_i1, ql_i63, ql_m1, qz_m1, qz_le, qz_lt, qz_eq, qz_add, qz_mul, qz_sub, qz_an, qz_ix, qz_and, qz_or, qz_shl, qz_shr, qz_andn, ql_eq, ql_and, ql_or, ql_shl, ql_shr, ql_andn, ql_of, qz_k31, qz_k63, qz_bit, qz_b0, qz_b1, ql_b0, ql_b1, lg_0, qz_gd, Nat.one_shiftLeft, aI_ap, aL_ap, upd_aI, upd_aL, aV_ap, upd_aV, upd_aVm]
            · obtain ⟨a1, a2, a3, a4, a5, a6, a7, a8, a9⟩ := hT
              refine ⟨a1, a2, a3, a4, a5, a6, a7, ?_, ?_⟩
              · intro j
                by_cases e : j = c
                · rw [e, updN_s]; omega
                · rw [updN_n e]; exact a8 j
              · intro j hj
                by_cases e : j = c
                · rw [e, updN_s]; exact k3
                · rw [updN_n e]; exact a9 j hj
          · have hT0 : ¬ nI T ≤ nI 0 := by rw [qz_le (by omega) (by omega)]; omega
            rw [if_neg hT0, if_neg hT0]; exact Or.inr (Or.inl ⟨rfl, rfl⟩)
        · rw [decide_eq_false e3, if_pos (show nI (Bool.toNat false) = nI 0 from rfl), if_pos (by rw [qz_le (by omega) (by omega)]; omega)]
          exact Or.inr (Or.inl ⟨rfl, rfl⟩)
  · rw [c3, c4, Option.bind_some, Option.bind_some]
    dsimp only [gx]
    rw [if_pos (show nI 0 = 0 from rfl), qz_i1, qr_throws1, Option.bind_some]
    dsimp only
    rw [if_neg (show ¬ nI 1 = 0 by decide)]
    exact Or.inl ⟨rfl, rfl⟩
theorem rd_row {n nd R T : Nat} {tm bt cl tk : Nat → Nat} {vws th kp : Int32} (h : RLt n nd R T tm bt cl tk) :
    (f_X4_row (nI T) vws (nI R) = some (-1, vws, nI R) ∧ f_X5_row (nI T) th (nI R) kp (aI bt) (aI cl) = some (-1, nI 0, nI R, kp, aI bt, aI cl)) ∨
    (f_X4_row (nI T) vws (nI R) = some (nI R, nI 0, nI (R + 1)) ∧ f_X5_row (nI T) th (nI R) kp (aI bt) (aI cl) = some (nI R, nI 0, nI (R + 1), nI 0, aI bt, aI cl) ∧ roF (R + 1) bt = roF R bt ∧ csF n nd (R + 1) bt cl = csF n nd R bt cl ∧ RLt n nd (R + 1) T tm bt cl tk) := by
  obtain ⟨hT, hz, hp, hk⟩ := h
  have h60 := TS_60 hT.2.2.2.1 hk
  have hR := hT.2.2.2.1
  have hb : bt R = 0 := hT.2.2.2.2.2.1 R (Nat.le_refl _)
  have hroom : (60 : Int32) - nI R = nI (60 - R) := by rw [qz_i60, qz_sub (by omega)]
  unfold f_X4_row f_X4_row_18 f_X2_room f_X2_addRow f_X5_row f_X5_row_21 f_X5_row_30
  rw [Option.bind_some, Option.bind_some, hroom]
  dsimp only
  by_cases e1 : R = 60
  · left
    subst e1
    rw [if_pos (show nI 60 = (60 : Int32) from rfl), if_neg (show ¬ (1 : Int32) ≤ nI (60 - 60) by decide)]
    refine ⟨?_, rfl⟩
    by_cases e2 : (0 : Int32) < nI T
    · rw [if_pos e2]
    · rw [if_neg e2]
  · have hR60 : ¬ nI R = (60 : Int32) := fun q => e1 ((qz_eq (by omega) (by omega)).1 (q.trans qz_i60))
    rw [if_neg hR60]
    by_cases e2 : T = 0
    · subst e2
      right
      have h1 : (1 : Int32) ≤ nI (60 - R) := by rw [qz_i1, qz_le (by omega) (by omega)]; omega
      rw [if_neg (show ¬ (0 : Int32) < nI 0 by decide), if_pos (show nI 0 ≤ (0 : Int32) by decide), if_pos h1, qz_i0, rc_addRow hz (by omega), Option.bind_some, qz_i1, qz_add, qz_sub (by omega), Nat.add_sub_cancel, updN_0 hb]
      refine ⟨rfl, rfl, rc_roS hb, rc_csS hb, ?_, fun j hj => hz j (by omega), hp, tk_0⟩
      have := TB_row (x := 0) hT (by omega) (Nat.two_pow_pos n)
      rwa [updN_0 hb] at this
    · left
      have hT0 : ¬ nI T ≤ (0 : Int32) := by rw [qz_i0, qz_le (by omega) (by omega)]; omega
      have hT1 : (0 : Int32) < nI T := by rw [qz_i0, qz_lt (by omega) (by omega)]; omega
      rw [if_pos hT1, if_neg hT0]
      exact ⟨rfl, rfl⟩
theorem pc_32 {x : Nat} (h : x < 16777216) : pc x 32 = pc x 24 := pc_top (x := x) (a := 24) (fun i hi => tb_hi (a := 24) h hi) 8
theorem TB_ent {n nd R c k : Nat} {tm bt cl : Nat → Nat} (hT : TB n nd R tm bt cl) (hR : 1 ≤ R) (hc : c < n) (hk : k ≤ 7) : TB n nd R tm (updN bt (R - 1) (bt (R - 1) ||| 2 ^ c)) (updN cl (24 * (R - 1) + c) k) := by
  obtain ⟨a1, a2, a3, a4, a5, a6, a7, a8, a9⟩ := hT
  refine ⟨a1, a2, a3, a4, ?_, ?_, ?_, a8, a9⟩
  · intro r
    by_cases e : r = R - 1
    · rw [e, updN_s]; exact Nat.or_lt_two_pow (a5 _) (Nat.pow_lt_pow_right (by decide) hc)
    · rw [updN_n e]; exact a5 r
  · intro r hr
    rw [updN_n (by omega)]; exact a6 r hr
  · intro j
    by_cases e : j = 24 * (R - 1) + c
    · rw [e, updN_s]; exact hk
    · rw [updN_n e]; exact a7 j
theorem pc_orb {x c n : Nat} (hc : c < n) (h : x.testBit c = false) : pc (x ||| 2 ^ c) n = pc x n + 1 := pc_bit (r := c) hc h (by rw [tb_or2]; simp) (fun i _ e => by rw [tb_or2, decide_eq_false (Ne.symm e), Bool.or_false])
theorem re_bad {n R T c : Nat} {bt cl : Nat → Nat} {th kp x2 : Int32} (hn : n < 2147483648) (hc : c < n) (h : x2 < 0 ∨ ¬ x2 ≤ 7) : f_X5_entry (nI n) (nI R) (nI T) th kp (aI bt) (aI cl) (nI c) x2 = some (nI 0, nI 2, kp, aI bt, aI cl) := by
  unfold f_X5_entry f_X5_entry_15 f_X5_entry_33 f_X5_entry_38 f_X5_entry_44 f_X5_entry_93
  rw [qr_isColumn hn hc, Option.bind_some]
  dsimp only
  rw [if_neg (show ¬ nI 1 = 0 by decide), show (0 : Int32) = nI 0 from rfl, qr_throws0, Option.bind_some]
  dsimp only
  rw [if_pos (show nI 0 = nI 0 from rfl), show (1 : Int32) = nI 1 from rfl, qr_throws1, Option.bind_some]
  dsimp only
  rw [if_neg (show ¬ nI 1 = nI 0 by decide)]
  by_cases e1 : x2 < nI 0
  · rw [if_pos e1]; rfl
  · rw [if_neg e1, if_neg (h.resolve_left e1)]; rfl
theorem re_no {n R T c k : Nat} {bt cl : Nat → Nat} {th kp : Int32} (hn : n ≤ 24) (hR : R ≤ 60) (hT : T ≤ 60) (hc : c < n) (hk : k ≤ 7) (hb : ∀ r, bt r < 16777216) (h : R = 0 ∨ T ≠ 0 ∨ (bt (R - 1)).testBit c = true ∨ pc (bt (R - 1)) 24 = 8) : f_X5_entry (nI n) (nI R) (nI T) th kp (aI bt) (aI cl) (nI c) (nI k) = some (nI 0, nI 0, kp, aI bt, aI cl) := by
  have hbr := hb (R - 1)
  have hpc := pc_le (bt (R - 1)) 24
  unfold f_X5_entry f_X5_entry_15 f_X5_entry_33 f_X5_entry_38 f_X5_entry_44 f_X5_entry_93
  rw [qr_isColumn (by omega) hc, Option.bind_some]
  dsimp only
  rw [if_neg (show ¬ nI 1 = 0 by decide), show (0 : Int32) = nI 0 from rfl, qr_throws0, Option.bind_some]
  dsimp only
  rw [if_pos (show nI 0 = nI 0 from rfl), qr_throws0, Option.bind_some]
  dsimp only
  rw [if_pos (show nI 0 = nI 0 from rfl), if_neg (show ¬ nI k < nI 0 by rw [qz_lt (by omega) (by omega)]; omega), if_pos (show nI k ≤ (7 : Int32) by rw [qz_i7, qz_le (by omega) (by omega)]; omega)]
  by_cases e1 : R = 0
  · subst e1; rw [if_pos rfl]
  · have h1 : ¬ nI R = nI 0 := by rw [qz_eq (by omega) (by omega)]; exact e1
    rw [if_neg h1]
    by_cases e2 : T = 0
    · subst e2
      rw [if_neg (show ¬ nI 0 < nI 0 by decide), show (1 : Int32) = nI 1 from rfl, qz_sub (by omega), qr_has (hb _) (by omega) (by omega), Option.bind_some]
      dsimp only
      cases e3 : (bt (R - 1)).testBit c
      · rw [if_pos (show nI (Bool.toNat false) = nI 0 from rfl)]
        have e4 : pc (bt (R - 1)) 24 = 8 := by
          rcases h with h | h | h | h
          · exact absurd h e1
          · exact absurd rfl h
          · rw [e3] at h; cases h
          · exact h
        simp (disch := omega) only [qz_i0, qz_i1, qz_i2, qz_i3, qz_i4, qz_i5, qz_i6, qz_i7, qz_i8, qz_i9, qz_i24, qz_i27, qz_i31, qz_i60, qz_i61, qz_i100, qz_i101, qz_i50000, qz_i100000, ql_i0, ql_i1, ql_i63, ql_m1, qz_m1, qz_le, qz_lt, qz_eq, qz_add, qz_mul, qz_sub, qz_an, qz_ix, qz_and, qz_or, qz_shl, qz_shr, qz_andn, ql_eq, ql_and, ql_or, ql_shl, ql_shr, ql_andn, ql_of, qz_k31, qz_k63, qz_bit, qz_b0, qz_b1, ql_b0, ql_b1, lg_0, qz_gd, Nat.one_shiftLeft, aI_ap, aL_ap, upd_aI, upd_aL, aV_ap, upd_aV, upd_aVm, qr_countOf, Option.bind_some, e4]
        rw [if_pos trivial]
      · rw [if_neg (show ¬ nI (Bool.toNat true) = nI 0 by decide)]
    · have h2 : nI 0 < nI T := by rw [qz_lt (by omega) (by omega)]; omega
      rw [if_pos h2]
theorem re_yes {n R c k : Nat} {bt cl : Nat → Nat} {th kp : Int32} (hn : n ≤ 24) (hR : R ≤ 60) (hR1 : 1 ≤ R) (hc : c < n) (hk : k ≤ 7) (hb : ∀ r, bt r < 16777216) (h1 : (bt (R - 1)).testBit c = false) (h2 : pc (bt (R - 1)) 24 ≠ 8) : f_X5_entry (nI n) (nI R) (nI 0) th kp (aI bt) (aI cl) (nI c) (nI k) = some (nI 1, nI 0, nI 0, aI (updN bt (R - 1) (bt (R - 1) ||| 2 ^ c)), aI (updN cl (24 * (R - 1) + c) k)) := by
  have hbr := hb (R - 1)
  have hpc := pc_le (bt (R - 1)) 24
  unfold f_X5_entry f_X5_entry_15 f_X5_entry_33 f_X5_entry_38 f_X5_entry_44 f_X5_entry_93
  rw [qr_isColumn (by omega) hc, Option.bind_some]
  dsimp only
  rw [if_neg (show ¬ nI 1 = 0 by decide), show (0 : Int32) = nI 0 from rfl, qr_throws0, Option.bind_some]
  dsimp only
  rw [if_pos (show nI 0 = nI 0 from rfl), qr_throws0, Option.bind_some]
  dsimp only
  rw [if_pos (show nI 0 = nI 0 from rfl), if_neg (show ¬ nI k < nI 0 by rw [qz_lt (by omega) (by omega)]; omega), if_pos (show nI k ≤ (7 : Int32) by rw [qz_i7, qz_le (by omega) (by omega)]; omega)]
  have g1 : ¬ nI R = nI 0 := by rw [qz_eq (by omega) (by omega)]; omega
  rw [if_neg g1, if_neg (show ¬ nI 0 < nI 0 by decide), show (1 : Int32) = nI 1 from rfl, qz_sub (by omega), qr_has (hb _) (by omega) (by omega), Option.bind_some]
  dsimp only
  rw [h1, if_pos (show nI (Bool.toNat false) = nI 0 from rfl)]
  simp (disch := omega) only [qz_i0, qz_i1, qz_i2, qz_i3, qz_i4, qz_i5, qz_i6, qz_i7, qz_i8, qz_i9, qz_i24, qz_i27, qz_i31, qz_i60, qz_i61, qz_i100, qz_i101, qz_i50000, qz_i100000, ql_i0, ql_i1, ql_i63, ql_m1, qz_m1, qz_le, qz_lt, qz_eq, qz_add, qz_mul, qz_sub, qz_an, qz_ix, qz_and, qz_or, qz_shl, qz_shr, qz_andn, ql_eq, ql_and, ql_or, ql_shl, ql_shr, ql_andn, ql_of, qz_k31, qz_k63, qz_bit, qz_b0, qz_b1, ql_b0, ql_b1, lg_0, qz_gd, Nat.one_shiftLeft, aI_ap, aL_ap, upd_aI, upd_aL, aV_ap, upd_aV, upd_aVm, qr_countOf, Option.bind_some]
  rw [if_neg h2]
theorem ce_bad {n nd R T c : Nat} {vws x2 : Int32} {v1 v2 : Nat → Int32} {v3 v4 : Nat → Int64} (h1 : f_X4_requireColumn (nI n) (nI c) = some (.inl ())) (h : x2 < 0 ∨ ¬ x2 ≤ 7) : f_X4_entry (nI T) (nI n) (nI nd) (nI R) vws v1 v2 v3 v4 (nI c) x2 = some (.inr ("java/lang/IllegalArgumentException", vws, v1, v2, v3, v4)) := by
  unfold f_X4_entry f_X4_entry_15
  rw [h1, Option.bind_some]
  dsimp only [gx]
  by_cases e1 : x2 < 0
  · rw [if_pos e1]
  · rw [if_neg e1, if_neg (h.resolve_left e1)]
theorem ce_take {R c : Nat} {bt : Nat → Nat} (hR : R ≤ 60) (hc : c < 24) (hb : ∀ r, bt r < 16777216) : f_X2_lastRowTakes (nI R) (aI bt) (nI c) = some (nI (decide (1 ≤ R ∧ (bt (R - 1)).testBit c = false ∧ pc (bt (R - 1)) 24 < 8)).toNat, ()) := by
  have hbr := hb (R - 1)
  have hpc := pc_le (bt (R - 1)) 24
  have h32 := pc_32 hbr
  unfold f_X2_lastRowTakes f_X2_lastRowTakes_43 f_X2_lastRowTakes_44
  by_cases e1 : R = 0
  · subst e1
    rw [if_neg (show ¬ (1 : Int32) ≤ nI 0 by decide), decide_eq_false (fun q => by omega)]; rfl
  · rw [if_pos (show (1 : Int32) ≤ nI R by rw [qz_i1, qz_le (by omega) (by omega)]; omega)]
    simp (disch := omega) only [qz_i0, qz_i1, qz_i2, qz_i3, qz_i4, qz_i5, qz_i6, qz_i7, qz_i8, qz_i9, qz_i24, qz_i27, qz_i31, qz_i60, qz_i61, qz_i100, qz_i101, qz_i50000, qz_i100000, ql_i0, ql_i1, ql_i63, ql_m1, qz_m1, qz_le, qz_lt, qz_eq, qz_add, qz_mul, qz_sub, qz_an, qz_ix, qz_and, qz_or, qz_shl, qz_shr, qz_andn, ql_eq, ql_and, ql_or, ql_shl, ql_shr, ql_andn, ql_of, qz_k31, qz_k63, qz_bit, qz_b0, qz_b1, ql_b0, ql_b1, lg_0, qz_gd, Nat.one_shiftLeft, aI_ap, aL_ap, upd_aI, upd_aL, aV_ap, upd_aV, upd_aVm, qp_I, Option.bind_some, h32]
    cases e2 : (bt (R - 1)).testBit c
    · rw [if_pos rfl]
      by_cases e3 : 8 ≤ pc (bt (R - 1)) 24
      · rw [if_pos e3, if_neg (by decide), decide_eq_false (fun q => by omega)]; rfl
      · rw [if_neg e3, if_neg (by decide), decide_eq_true ⟨by omega, rfl, by omega⟩]; rfl
    · rw [if_neg (by decide), if_neg (by decide), decide_eq_false (fun q => by cases q.2.1)]; rfl
theorem ce_rest {n nd R T c k : Nat} {vws : Int32} {v1 v2 : Nat → Int32} {v3 v4 : Nat → Int64} (h1 : f_X4_requireColumn (nI n) (nI c) = some (.inl ())) (hk : k ≤ 7) : f_X4_entry (nI T) (nI n) (nI nd) (nI R) vws v1 v2 v3 v4 (nI c) (nI k) = if 0 < nI T then some (.inl (nI 0, vws, v1, v2, v3, v4)) else ((f_X2_lastRowTakes (nI R) v1 (nI c)).bind (fun o_5 => if o_5.1 = 0 then some (.inl (nI 0, vws, v1, v2, v3, v4)) else ((f_X2_addToLastRow (nI nd) (nI R) v1 v2 v3 v4 (nI c) (nI k)).bind (fun o_7 => some (.inl (nI 1, nI 0, o_7.1, o_7.2.1, o_7.2.2.1, o_7.2.2.2)))))) := by
  unfold f_X4_entry f_X4_entry_43
  rw [h1, Option.bind_some]
  dsimp only [gx]
  rw [if_neg (show ¬ nI k < 0 by rw [qz_i0, qz_lt (by omega) (by omega)]; omega), if_pos (show nI k ≤ (7 : Int32) by rw [qz_i7, qz_le (by omega) (by omega)]; omega)]
  rfl
theorem rd_entry {n nd R T : Nat} {tm bt cl tk : Nat → Nat} {vws th kp : Int32} (h : RLt n nd R T tm bt cl tk) (x1 x2 : Int32) :
    (f_X4_entry (nI T) (nI n) (nI nd) (nI R) vws (aI bt) (aI (ccF nd cl)) (aL (roF R bt)) (aL (csF n nd R bt cl)) x1 x2 = some (.inr (RJx00060, vws, aI bt, aI (ccF nd cl), aL (roF R bt), aL (csF n nd R bt cl))) ∧ f_X5_entry (nI n) (nI R) (nI T) th kp (aI bt) (aI cl) x1 x2 = some (nI 0, nI 1, kp, aI bt, aI cl)) ∨
    (f_X4_entry (nI T) (nI n) (nI nd) (nI R) vws (aI bt) (aI (ccF nd cl)) (aL (roF R bt)) (aL (csF n nd R bt cl)) x1 x2 = some (.inr ("java/lang/IllegalArgumentException", vws, aI bt, aI (ccF nd cl), aL (roF R bt), aL (csF n nd R bt cl))) ∧ f_X5_entry (nI n) (nI R) (nI T) th kp (aI bt) (aI cl) x1 x2 = some (nI 0, nI 2, kp, aI bt, aI cl)) ∨
    (f_X4_entry (nI T) (nI n) (nI nd) (nI R) vws (aI bt) (aI (ccF nd cl)) (aL (roF R bt)) (aL (csF n nd R bt cl)) x1 x2 = some (.inl (nI 0, vws, aI bt, aI (ccF nd cl), aL (roF R bt), aL (csF n nd R bt cl))) ∧ f_X5_entry (nI n) (nI R) (nI T) th kp (aI bt) (aI cl) x1 x2 = some (nI 0, nI 0, kp, aI bt, aI cl)) ∨
    ∃ bt' cl', f_X4_entry (nI T) (nI n) (nI nd) (nI R) vws (aI bt) (aI (ccF nd cl)) (aL (roF R bt)) (aL (csF n nd R bt cl)) x1 x2 = some (.inl (nI 1, nI 0, aI bt', aI (ccF nd cl'), aL (roF R bt'), aL (csF n nd R bt' cl'))) ∧ f_X5_entry (nI n) (nI R) (nI T) th kp (aI bt) (aI cl) x1 x2 = some (nI 1, nI 0, nI 0, aI bt', aI cl') ∧ RLt n nd R T tm bt' cl' tk := by
  obtain ⟨hT, hz, hp, hk⟩ := h
  have hn := hT.2.1
  have hnd := hT.2.2.1
  have hR := hT.2.2.2.1
  have h60 := TS_60 hR hk
  rcases rc_col (n := n) (x := x1) (by omega) with ⟨c, c1, c2, c3, c4⟩ | ⟨c3, c4⟩
  · subst c2
    by_cases hbad : x2 < 0 ∨ ¬ x2 ≤ 7
    · exact Or.inr (Or.inl ⟨ce_bad c3 hbad, re_bad (by omega) c1 hbad⟩)
    · have hx : ∃ k, k < 8 ∧ x2 = nI k := by
        rcases pk_ix x2 (n := 8) (by decide) with q | q | q
        · exact absurd (Or.inl q) hbad
        · refine absurd (Or.inr (fun z => ?_)) hbad
          exact absurd (Int32.lt_of_lt_of_le (show (7 : Int32) < nI 8 by decide) (Int32.le_trans q z)) Int32.lt_irrefl
        · exact q
      obtain ⟨k, k1, k2⟩ := hx
      subst k2
      rw [ce_rest c3 (by omega), ce_take hR (by omega) hT.b24, Option.bind_some]
      dsimp only
      by_cases hno : R = 0 ∨ T ≠ 0 ∨ (bt (R - 1)).testBit c = true ∨ pc (bt (R - 1)) 24 = 8
      · right; right; left
        refine ⟨?_, re_no hn hR h60 c1 (by omega) hT.b24 hno⟩
        by_cases e4 : T = 0
        · subst e4
          rw [if_neg (show ¬ 0 < nI 0 by decide), decide_eq_false (fun q => by
            rcases hno with z | z | z | z
            · omega
            · exact z rfl
            · rw [q.2.1] at z; cases z
            · omega), if_pos (by decide)]
        · rw [if_pos (show (0 : Int32) < nI T by rw [qz_i0, qz_lt (by omega) (by omega)]; omega)]
      · have hpc := hp (R - 1)
        simp only [not_or, Classical.not_not] at hno
        obtain ⟨g1, g2, g3, g4⟩ := hno
        subst g2
        have g3' : (bt (R - 1)).testBit c = false := by simpa using g3
        rw [if_neg (show ¬ 0 < nI 0 by decide), decide_eq_true ⟨by omega, g3', by omega⟩, if_neg (by decide), rb_add hT (by omega) c1 (by omega) g3', Option.bind_some, re_yes hn hR (by omega) c1 (by omega) hT.b24 g3' g4]
        right; right; right
        refine ⟨_, _, rfl, rfl, TB_ent hT (by omega) c1 (by omega), ?_, ?_, tk_0⟩
        · intro j hj
          rw [updN_n (by omega)]; exact hz j hj
        · intro r
          by_cases q : r = R - 1
          · rw [q, updN_s, pc_orb (by omega) g3']; omega
          · rw [updN_n q]; exact hp r
  · left
    unfold f_X4_entry f_X5_entry f_X5_entry_15 f_X5_entry_44
    rw [c3, c4, Option.bind_some, Option.bind_some]
    dsimp only [gx]
    rw [if_pos (show nI 0 = 0 from rfl), qz_i1, qr_throws1, Option.bind_some]
    dsimp only
    rw [if_neg (show ¬ nI 1 = 0 by decide)]
    exact ⟨rfl, rfl⟩
