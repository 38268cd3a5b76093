-- an entry, a row: the class's table stays the picture of the reference's
def ccF (nd : Nat) (cl : Nat → Nat) : Nat → Nat := fun j => if j % 24 < nd then 0 else cl j
def cdB (bt cl : Nat → Nat) (c k o : Nat) : Bool := (bt o).testBit c && (decide (k = 0) || !decide (k = cl (24 * o + c)))
def mcN (cs : Nat → Nat) (P : Nat → Bool) (row j : Nat) : Nat → Nat := fun r => if r = row then cs row ||| bs P j else if r < j ∧ P r = true then cs r ||| 2 ^ row else cs r
theorem mcN_0 (cs : Nat → Nat) (P : Nat → Bool) (row : Nat) : mcN cs P row 0 = cs := by
  funext r; unfold mcN
  by_cases e : r = row
  · rw [if_pos e, e]; exact Nat.or_zero _
  · rw [if_neg e, if_neg (fun h => by omega)]
theorem mcN_n {cs : Nat → Nat} {P : Nat → Bool} {row j : Nat} (h : P j = false) : mcN cs P row (j + 1) = mcN cs P row j := by
  funext r; unfold mcN
  by_cases e : r = row
  · rw [if_pos e, if_pos e, qz_bss, h, if_neg (by decide), Nat.or_zero]
  · rw [if_neg e, if_neg e]
    by_cases e2 : r < j ∧ P r = true
    · rw [if_pos e2, if_pos ⟨by omega, e2.2⟩]
    · rw [if_neg e2, if_neg (fun q => by
        by_cases e3 : r = j
        · rw [e3, h] at q; cases q.2
        · exact e2 ⟨by omega, q.2⟩)]
theorem mcN_s {cs : Nat → Nat} {P : Nat → Bool} {row j : Nat} (hj : j < row) (h : P j = true) : updN (updN (mcN cs P row j) row (mcN cs P row j row ||| 2 ^ j)) j (cs j ||| 2 ^ row) = mcN cs P row (j + 1) := by
  funext r
  by_cases e : r = j
  · subst e
    rw [updN_s]; unfold mcN
    rw [if_neg (by omega), if_pos ⟨by omega, h⟩]
  · rw [updN_n e]
    by_cases e2 : r = row
    · subst e2
      rw [updN_s]; unfold mcN
      rw [if_pos rfl, if_pos rfl, qz_bss, h, if_pos rfl, Nat.or_assoc]
    · rw [updN_n e2]; unfold mcN
      rw [if_neg e2, if_neg e2]
      by_cases e3 : r < j ∧ P r = true
      · rw [if_pos e3, if_pos ⟨by omega, e3.2⟩]
      · rw [if_neg e3, if_neg (fun q => e3 ⟨by omega, q.2⟩)]
theorem rb_mark {n nd R c k : Nat} {tm bt cl cs : Nat → Nat} (hT : TB n nd R tm bt cl) (hR : 1 ≤ R) (hc : c < n) (hnd : nd ≤ c) (hk : k ≤ 7) :
    f_X2_markClashes (aI (ccF nd cl)) (aL (roF R bt)) (aL cs) (nI (R - 1)) (nI c) (nI k) = some (aL (mcN cs (cdB bt cl c k) (R - 1) (R - 1))) := by
  have h60 := hT.2.2.2.1
  have hn := hT.2.1
  have key : ∀ m j g, j + m = R - 1 → m < g → f_X2_markClashes_3 (aI (ccF nd cl)) (aL (roF R bt)) g (aL (mcN cs (cdB bt cl c k) (R - 1) j)) (nI (R - 1)) (nI c) (nI k) (nI j) = some (aL (mcN cs (cdB bt cl c k) (R - 1) (R - 1))) := by
    intro m
    induction m with
    | zero =>
      intro j g hj hg
      obtain ⟨p, rfl, hp⟩ := qt_fuel hg
      have e : j = R - 1 := by omega
      subst e
      simp only [f_X2_markClashes_3]
      rw [if_pos (Int32.le_refl _)]
    | succ m ih =>
      intro j g hj hg
      obtain ⟨p, rfl, hp⟩ := qt_fuel hg
      have hstep := ih (j + 1) p (by omega) (by omega)
      have hro : (roF R bt c).testBit j = (bt j).testBit c := by rw [roF_tb, decide_eq_true (show j < R by omega), Bool.true_and]
      have hlt := roF_lt bt h60 c
      have hcc : ccF nd cl (j * 24 + c) = cl (24 * j + c) := by
        unfold ccF
        rw [show (j * 24 + c) % 24 = c by omega, if_neg (by omega), Nat.mul_comm]
      have hcl := hT.2.2.2.2.2.2.1 (24 * j + c)
      have hmj : mcN cs (cdB bt cl c k) (R - 1) j j = cs j := by
        unfold mcN; rw [if_neg (by omega), if_neg (fun q => by omega)]
      simp only [f_X2_markClashes_3, f_X2_markClashes_30, f_X2_markClashes_57, f_X2_markClashes_83]
      simp (disch := omega) only [qz_i0, qz_i1, qz_i2, qz_i3, qz_i4, qz_i5, qz_i6, qz_i7, qz_i8, qz_i9, qz_i24, qz_i27, qz_i31, qz_i60, qz_i61, qz_i100, qz_i101, qz_i50000, qz_i100000, ql_i0, ql_i1, ql_i63, ql_m1, qz_m1, qz_le, qz_lt, qz_eq, qz_add, qz_mul, qz_sub, qz_an, qz_ix, qz_and, qz_or, qz_shl, qz_shr, qz_andn, ql_eq, ql_and, ql_or, ql_shl, ql_shr, ql_andn, ql_of, qz_k31, qz_k63, qz_bit, qz_b0, qz_b1, ql_b0, ql_b1, lg_0, qz_gd, Nat.one_shiftLeft, aI_ap, aL_ap, upd_aI, upd_aL, aV_ap, upd_aV, upd_aVm, hro, hcc]
      rw [if_neg (by omega)]
      cases h1 : (bt j).testBit c
      · have e : cdB bt cl c k j = false := by unfold cdB; rw [h1]; rfl
        rw [mcN_n e] at hstep
        rw [if_pos rfl, if_pos trivial]
        exact hstep
      · rw [if_neg (by decide), if_neg (by decide)]
        have hfin : cdB bt cl c k j = true → f_X2_markClashes_3 (aI (ccF nd cl)) (aL (roF R bt)) p (aL (updN (updN (mcN cs (cdB bt cl c k) (R - 1) j) (R - 1) (mcN cs (cdB bt cl c k) (R - 1) j (R - 1) ||| 2 ^ j)) j (updN (mcN cs (cdB bt cl c k) (R - 1) j) (R - 1) (mcN cs (cdB bt cl c k) (R - 1) j (R - 1) ||| 2 ^ j) j ||| 2 ^ (R - 1)))) (nI (R - 1)) (nI c) (nI k) (nI (j + 1)) = some (aL (mcN cs (cdB bt cl c k) (R - 1) (R - 1))) := by
          intro e
          rw [updN_n (by omega : j ≠ R - 1), hmj, mcN_s (by omega) e]
          exact hstep
        by_cases h2 : k = 0
        · have e : cdB bt cl c k j = true := by unfold cdB; rw [h1, decide_eq_true h2]; rfl
          rw [if_pos h2]
          exact hfin e
        · rw [if_neg h2]
          by_cases h3 : k = cl (24 * j + c)
          · have e : cdB bt cl c k j = false := by unfold cdB; rw [h1, decide_eq_false h2, decide_eq_true h3]; rfl
            rw [mcN_n e] at hstep
            rw [if_pos h3]
            exact hstep
          · have e : cdB bt cl c k j = true := by unfold cdB; rw [h1, decide_eq_false h2, decide_eq_false h3]; rfl
            rw [if_neg h3]
            exact hfin e
  have k0 := key (R - 1) 0 1000000 (by omega) (by omega)
  rw [mcN_0] at k0
  exact k0
/-- the table with one more entry in the last row -/
theorem rb_ro {R c : Nat} {bt : Nat → Nat} (hR : 1 ≤ R) : updN (roF R bt) c (roF R bt c ||| 2 ^ (R - 1)) = roF R (updN bt (R - 1) (bt (R - 1) ||| 2 ^ c)) := by
  funext d
  apply Nat.eq_of_testBit_eq
  intro r
  rw [roF_tb]
  by_cases e : d = c
  · subst e
    rw [updN_s, tb_or2, roF_tb]
    by_cases e2 : r = R - 1
    · subst e2; rw [updN_s, tb_or2, decide_eq_true (show R - 1 < R by omega)]; simp
    · rw [updN_n e2, decide_eq_false (Ne.symm e2), Bool.or_false]
  · rw [updN_n e, roF_tb]
    by_cases e2 : r = R - 1
    · subst e2; rw [updN_s, tb_or2, decide_eq_false (Ne.symm e), Bool.or_false]
    · rw [updN_n e2]
theorem rb_csN {n nd R c k : Nat} {tm bt cl : Nat → Nat} (hT : TB n nd R tm bt cl) (hR : 1 ≤ R) (hc : c < nd) : csF n nd R (updN bt (R - 1) (bt (R - 1) ||| 2 ^ c)) (updN cl (24 * (R - 1) + c) k) = csF n nd R bt cl := by
  funext r
  apply Nat.eq_of_testBit_eq
  intro o
  rw [Bool.eq_iff_iff, csF_tb, csF_tb]
  have hbt : ∀ x d, nd ≤ d → ((updN bt (R - 1) (bt (R - 1) ||| 2 ^ c) x).testBit d = (bt x).testBit d) := by
    intro x d hd
    by_cases e : x = R - 1
    · subst e; rw [updN_s, tb_or2, decide_eq_false (by omega), Bool.or_false]
    · rw [updN_n e]
  have hcl : ∀ x d, nd ≤ d → d < n → updN cl (24 * (R - 1) + c) k (24 * x + d) = cl (24 * x + d) := by
    intro x d h1 h2
    have := hT.2.1
    rw [updN_n (by omega)]
  constructor
  · rintro ⟨a1, a2, a3, d, d1, d2, d3, d4, d5⟩
    rw [hbt _ _ d2] at d3 d4
    rw [hcl _ _ d2 d1, hcl _ _ d2 d1] at d5
    exact ⟨a1, a2, a3, d, d1, d2, d3, d4, d5⟩
  · rintro ⟨a1, a2, a3, d, d1, d2, d3, d4, d5⟩
    refine ⟨a1, a2, a3, d, d1, d2, ?_, ?_, ?_⟩
    · rw [hbt _ _ d2]; exact d3
    · rw [hbt _ _ d2]; exact d4
    · rw [hcl _ _ d2 d1, hcl _ _ d2 d1]; exact d5
theorem rb_csO {n nd R c k : Nat} {tm bt cl : Nat → Nat} (hT : TB n nd R tm bt cl) (hR : 1 ≤ R) (hc : c < n) (hnd : nd ≤ c) (h0 : (bt (R - 1)).testBit c = false) : mcN (csF n nd R bt cl) (cdB bt cl c k) (R - 1) (R - 1) = csF n nd R (updN bt (R - 1) (bt (R - 1) ||| 2 ^ c)) (updN cl (24 * (R - 1) + c) k) := by
  have hn := hT.2.1
  have hbt : ∀ x d, x ≠ R - 1 → (updN bt (R - 1) (bt (R - 1) ||| 2 ^ c) x).testBit d = (bt x).testBit d := fun x d e => by rw [updN_n e]
  have hbr : ∀ d, (updN bt (R - 1) (bt (R - 1) ||| 2 ^ c) (R - 1)).testBit d = ((bt (R - 1)).testBit d || decide (c = d)) := fun d => by rw [updN_s, tb_or2]
  have hcl : ∀ x d, x ≠ R - 1 → d < n → updN cl (24 * (R - 1) + c) k (24 * x + d) = cl (24 * x + d) := fun x d e h => by rw [updN_n (by omega)]
  have hcr : ∀ d, d < n → d ≠ c → updN cl (24 * (R - 1) + c) k (24 * (R - 1) + d) = cl (24 * (R - 1) + d) := fun d h e => by rw [updN_n (by omega)]
  have hcc : updN cl (24 * (R - 1) + c) k (24 * (R - 1) + c) = k := updN_s _ _ _
  have hcd : ∀ o, cdB bt cl c k o = true ↔ (bt o).testBit c = true ∧ (k = 0 ∨ k ≠ cl (24 * o + c)) := by
    intro o
    unfold cdB
    rw [Bool.and_eq_true, Bool.or_eq_true, decide_eq_true_iff, Bool.not_eq_true', decide_eq_false_iff_not]
  -- the last row beside another one
  have hrow : ∀ o, o < R - 1 → ((csF n nd R (updN bt (R - 1) (bt (R - 1) ||| 2 ^ c)) (updN cl (24 * (R - 1) + c) k) (R - 1)).testBit o = true ↔ (csF n nd R bt cl (R - 1)).testBit o = true ∨ cdB bt cl c k o = true) := by
    intro o ho
    rw [csF_tb, csF_tb, hcd]
    constructor
    · rintro ⟨a1, a2, a3, d, d1, d2, d3, d4, d5⟩
      rw [hbt o d (by omega)] at d4
      by_cases e : d = c
      · subst e
        rw [hcc, hcl o d (by omega) d1] at d5
        exact Or.inr ⟨d4, d5⟩
      · rw [hbr, decide_eq_false (Ne.symm e), Bool.or_false] at d3
        rw [hcr d d1 e, hcl o d (by omega) d1] at d5
        exact Or.inl ⟨a1, a2, a3, d, d1, d2, d3, d4, d5⟩
    · rintro (⟨a1, a2, a3, d, d1, d2, d3, d4, d5⟩ | ⟨b1, b2⟩)
      · have e : d ≠ c := fun q => by rw [q, h0] at d3; cases d3
        refine ⟨a1, a2, a3, d, d1, d2, ?_, ?_, ?_⟩
        · rw [hbr, d3, Bool.true_or]
        · rw [hbt o d (by omega)]; exact d4
        · rw [hcr d d1 e, hcl o d (by omega) d1]; exact d5
      · refine ⟨by omega, by omega, by omega, c, hc, hnd, ?_, ?_, ?_⟩
        · rw [hbr, decide_eq_true rfl, Bool.or_true]
        · rw [hbt o c (by omega)]; exact b1
        · rw [hcc, hcl o c (by omega) hc]; exact b2
  funext r
  apply Nat.eq_of_testBit_eq
  intro o
  rw [Bool.eq_iff_iff]
  unfold mcN
  by_cases e : r = R - 1
  · subst e
    rw [if_pos rfl, Nat.testBit_or, bs_tb, Bool.or_eq_true, Bool.and_eq_true, decide_eq_true_iff]
    by_cases ho : o < R - 1
    · rw [hrow o ho]
      exact ⟨fun q => q.elim Or.inl (fun q => Or.inr q.2), fun q => q.elim Or.inl (fun q => Or.inr ⟨ho, q⟩)⟩
    · constructor
      · rintro (q | q)
        · rw [csF_tb] at q; omega
        · omega
      · intro q; rw [csF_tb] at q; omega
  · rw [if_neg e]
    have hsame : o ≠ R - 1 → ((csF n nd R bt cl r).testBit o = true ↔ (csF n nd R (updN bt (R - 1) (bt (R - 1) ||| 2 ^ c)) (updN cl (24 * (R - 1) + c) k) r).testBit o = true) := by
      intro eo
      rw [csF_tb, csF_tb]
      constructor
      · rintro ⟨a1, a2, a3, d, d1, d2, d3, d4, d5⟩
        exact ⟨a1, a2, a3, d, d1, d2, by rw [hbt r d e]; exact d3, by rw [hbt o d eo]; exact d4, by rw [hcl r d e d1, hcl o d eo d1]; exact d5⟩
      · rintro ⟨a1, a2, a3, d, d1, d2, d3, d4, d5⟩
        rw [hbt r d e] at d3
        rw [hbt o d eo] at d4
        rw [hcl r d e d1, hcl o d eo d1] at d5
        exact ⟨a1, a2, a3, d, d1, d2, d3, d4, d5⟩
    by_cases hr : r < R - 1
    · by_cases eo : o = R - 1
      · subst eo
        rw [csF_sym n nd R (updN bt (R - 1) (bt (R - 1) ||| 2 ^ c)), hrow r hr, csF_sym n nd R bt cl (R - 1) r]
        by_cases hp : cdB bt cl c k r = true
        · rw [if_pos ⟨hr, hp⟩, tb_or2]
          exact ⟨fun _ => Or.inr hp, fun _ => by simp⟩
        · rw [if_neg (fun q => hp q.2)]
          exact ⟨Or.inl, fun q => q.elim id (fun q => absurd q hp)⟩
      · by_cases hp : cdB bt cl c k r = true
        · rw [if_pos ⟨hr, hp⟩, tb_or2, decide_eq_false (Ne.symm eo), Bool.or_false]
          exact hsame eo
        · rw [if_neg (fun q => hp q.2)]
          exact hsame eo
    · rw [if_neg (fun q => hr q.1)]
      constructor
      · intro q; rw [csF_tb] at q; omega
      · intro q; rw [csF_tb] at q; omega
theorem rb_cc {n nd R c k : Nat} {cl : Nat → Nat} (hc : c < 24) : ccF nd (updN cl (24 * (R - 1) + c) k) = if c < nd then ccF nd cl else updN (ccF nd cl) (24 * (R - 1) + c) k := by
  by_cases e : c < nd
  · rw [if_pos e]
    funext j
    unfold ccF
    by_cases e2 : j % 24 < nd
    · rw [if_pos e2, if_pos e2]
    · rw [if_neg e2, if_neg e2, updN_n (by omega)]
  · rw [if_neg e]
    funext j
    by_cases e2 : j = 24 * (R - 1) + c
    · subst e2
      rw [updN_s]; unfold ccF
      rw [if_neg (by omega), updN_s]
    · rw [updN_n e2]; unfold ccF
      rw [updN_n e2]
theorem rb_byte : ∀ k, k ≤ 7 → vp_nar .byte ((Int32.toInt8 (nI k)).toInt32) = nI k := by decide +kernel
theorem rb_add {n nd R c k : Nat} {tm bt cl : Nat → Nat} (hT : TB n nd R tm bt cl) (hR : 1 ≤ R) (hc : c < n) (hk : k ≤ 7) (h0 : (bt (R - 1)).testBit c = false) :
    f_X2_addToLastRow (nI nd) (nI R) (aI bt) (aI (ccF nd cl)) (aL (roF R bt)) (aL (csF n nd R bt cl)) (nI c) (nI k)
      = some (aI (updN bt (R - 1) (bt (R - 1) ||| 2 ^ c)), aI (ccF nd (updN cl (24 * (R - 1) + c) k)), aL (roF R (updN bt (R - 1) (bt (R - 1) ||| 2 ^ c))), aL (csF n nd R (updN bt (R - 1) (bt (R - 1) ||| 2 ^ c)) (updN cl (24 * (R - 1) + c) k))) := by
  have h60 := hT.2.2.2.1
  have hn := hT.2.1
  have hnd := hT.2.2.1
  unfold f_X2_addToLastRow f_X2_addToLastRow_46
  rw [rb_byte k hk, qt_isNeeded (by omega) (by omega), Option.bind_some]
  rw [rb_cc (n := n) (by omega)]
  simp (disch := omega) only [qz_i0, qz_i1, qz_i2, qz_i3, qz_i4, qz_i5, qz_i6, qz_i7, qz_i8, qz_i9, qz_i24, qz_i27, qz_i31, qz_i60, qz_i61, qz_i100, qz_i101, qz_i50000, qz_i100000, ql_i0, ql_i1, ql_i63, ql_m1, qz_m1, qz_le, qz_lt, qz_eq, qz_add, qz_mul, qz_sub, qz_an, qz_ix, qz_and, qz_or, qz_shl, qz_shr, qz_andn, ql_eq, ql_and, ql_or, ql_shl, ql_shr, ql_andn, ql_of, qz_k31, qz_k63, qz_bit, qz_b0, qz_b1, ql_b0, ql_b1, lg_0, qz_gd, Nat.one_shiftLeft, aI_ap, aL_ap, upd_aI, upd_aL, aV_ap, upd_aV, upd_aVm]
  rw [if_neg (by omega), if_pos (by omega)]
  by_cases e : c < nd
  · rw [if_neg (show ¬ (decide (c < nd) = false) by rw [decide_eq_true e]; decide), if_pos e, rb_ro hR, rb_csN hT hR e]
  · rw [if_pos (show decide (c < nd) = false by exact decide_eq_false e), if_neg e, rb_mark hT hR hc (by omega) hk, Option.bind_some, rb_csO hT hR hc (by omega) h0]
    rw [rb_ro hR, Nat.mul_comm (R - 1) 24]
