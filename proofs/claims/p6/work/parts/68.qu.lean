-- the table that both sides hold, as sets; the reference's counts beside a set of chosen rows
def roF (R : Nat) (bt : Nat → Nat) (c : Nat) : Nat := bs (fun r => (bt r).testBit c) R
def duF (nd : Nat) (tm : Nat → Nat) (c : Nat) : Nat := if c < nd then tm c else 0
def klB (n nd : Nat) (bt cl : Nat → Nat) (r o : Nat) : Bool := decide (r ≠ o ∧ ∃ c, c < n ∧ nd ≤ c ∧ (bt r).testBit c = true ∧ (bt o).testBit c = true ∧ (cl (24 * r + c) = 0 ∨ cl (24 * r + c) ≠ cl (24 * o + c)))
def csF (n nd R : Nat) (bt cl : Nat → Nat) (r : Nat) : Nat := if r < R then bs (klB n nd bt cl r) R else 0
theorem roF_tb (R : Nat) (bt : Nat → Nat) (c r : Nat) : (roF R bt c).testBit r = (decide (r < R) && (bt r).testBit c) := bs_tb _ _ _
theorem csF_tb (n nd R : Nat) (bt cl : Nat → Nat) (r o : Nat) : (csF n nd R bt cl r).testBit o = true ↔ r < R ∧ o < R ∧ r ≠ o ∧ ∃ c, c < n ∧ nd ≤ c ∧ (bt r).testBit c = true ∧ (bt o).testBit c = true ∧ (cl (24 * r + c) = 0 ∨ cl (24 * r + c) ≠ cl (24 * o + c)) := by
  unfold csF
  by_cases h : r < R
  · rw [if_pos h, bs_tb, Bool.and_eq_true, decide_eq_true_iff]
    unfold klB
    rw [decide_eq_true_iff]
    exact ⟨fun a => ⟨h, a.1, a.2⟩, fun a => a.2⟩
  · rw [if_neg h, Nat.zero_testBit]
    exact ⟨fun a => (by cases a), fun a => absurd a.1 h⟩
theorem bs_60 (P : Nat → Bool) {R : Nat} (h : R ≤ 60) : bs P R < 2 ^ 60 := Nat.lt_of_lt_of_le (bs_lt P R) (Nat.pow_le_pow_right (by decide) h)
theorem roF_lt {R : Nat} (bt : Nat → Nat) (h : R ≤ 60) (c : Nat) : roF R bt c < 2 ^ 60 := bs_60 _ h
theorem csF_lt {n nd R : Nat} (bt cl : Nat → Nat) (h : R ≤ 60) (c : Nat) : csF n nd R bt cl c < 2 ^ 60 := by
  unfold csF
  by_cases hc : c < R
  · rw [if_pos hc]; exact bs_60 _ h
  · rw [if_neg hc]; decide
theorem csF_sym (n nd R : Nat) (bt cl : Nat → Nat) (r o : Nat) : (csF n nd R bt cl r).testBit o = (csF n nd R bt cl o).testBit r := by
  have key : ∀ a b, (csF n nd R bt cl a).testBit b = true → (csF n nd R bt cl b).testBit a = true := by
    intro a b h
    rw [csF_tb] at h ⊢
    obtain ⟨h1, h2, h3, c, c1, c2, c3, c4, c5⟩ := h
    refine ⟨h2, h1, Ne.symm h3, c, c1, c2, c4, c3, ?_⟩
    rcases c5 with c5 | c5
    · by_cases e : cl (24 * b + c) = 0
      · exact Or.inl e
      · right; rw [c5]; exact e
    · exact Or.inr (Ne.symm c5)
  cases h : (csF n nd R bt cl r).testBit o
  · cases h2 : (csF n nd R bt cl o).testBit r
    · rfl
    · rw [key o r h2] at h; cases h
  · exact (key r o h).symm
theorem csF_irr (n nd R : Nat) (bt cl : Nat → Nat) (r : Nat) : (csF n nd R bt cl r).testBit r = false := by
  cases h : (csF n nd R bt cl r).testBit r
  · rfl
  · rw [csF_tb] at h; exact absurd rfl h.2.2.1
theorem tabF {n nd R : Nat} (bt cl : Nat → Nat) (h : R ≤ 60) : tabS R (roF R bt) bt (csF n nd R bt cl) := ⟨h, fun c r => roF_tb R bt c r, fun r o => csF_sym n nd R bt cl r o, fun r => csF_irr n nd R bt cl r⟩
abbrev okT (n nd R : Nat) (tm bt cl : Nat → Nat) (X : Nat) : Prop := okS nd R (duF nd tm) (roF R bt) bt (csF n nd R bt cl) X
abbrev frT (n nd R : Nat) (tm bt cl : Nat → Nat) (X r : Nat) : Prop := frS nd R (duF nd tm) (roF R bt) bt (csF n nd R bt cl) X r
theorem okS_add {nd R : Nat} {due rows cols cs : Nat → Nat} {X r : Nat} (hT : tabS R rows cols cs) (hX : okS nd R due rows cols cs X) (hr : frS nd R due rows cols cs X r) : okS nd R due rows cols cs (X ||| 2 ^ r) := by
  obtain ⟨k1, k2, k3⟩ := hX
  obtain ⟨f1, f2, f3, f4, f5⟩ := hr
  refine ⟨?_, ?_, ?_⟩
  · intro i hi
    rw [tb_or2, Bool.or_eq_true, decide_eq_true_iff] at hi
    rcases hi with hi | hi
    · exact k1 i hi
    · subst hi; exact ⟨f1, f3⟩
  · intro i hi
    rw [tb_or2, Bool.or_eq_true, decide_eq_true_iff] at hi
    rw [and0]
    intro o ho
    rw [tb_or2]
    rcases hi with hi | hi
    · have a := k2 i hi
      rw [and0] at a f4
      rw [a o ho, Bool.false_or]
      refine decide_eq_false (fun e => ?_)
      subst e
      rw [hT.2.2.1] at ho
      rw [f4 i ho] at hi
      cases hi
    · subst hi
      rw [and0] at f4
      rw [f4 o ho, Bool.false_or]
      refine decide_eq_false (fun e => ?_)
      subst e
      rw [hT.2.2.2] at ho
      cases ho
  · intro c hc
    by_cases h : (cols r).testBit c = true
    · have a := f5 c hc h
      rw [pc_more hT f1 f2 h]; omega
    · have h' : (cols r).testBit c = false := by simpa using h
      rw [pc_same hT h']; exact k3 c hc
theorem okS_0 {nd R : Nat} {due rows cols cs : Nat → Nat} : okS nd R due rows cols cs 0 := by
  refine ⟨fun r h => ?_, fun r h => ?_, fun c _ => ?_⟩
  · rw [Nat.zero_testBit] at h; cases h
  · rw [Nat.zero_testBit] at h; cases h
  · rw [Nat.and_zero]
    have : pc 0 64 = 0 := by decide
    omega
/-- the reference's isChosen, count and colour beside the set of the rows chosen -/
def relC (n nd R : Nat) (bt cl : Nat → Nat) (X : Nat) (ic cn co : Nat → Nat) : Prop :=
  (∀ r, r < 60 → ic r = (X.testBit r).toNat) ∧ (∀ c, c < n → cn c = pc (roF R bt c &&& X) 64) ∧ ∀ r c, X.testBit r = true → nd ≤ c → c < n → (bt r).testBit c = true → co c = cl (24 * r + c)
theorem relC_on {n nd R : Nat} {bt cl ic cn co : Nat → Nat} {X r : Nat} (hR : R ≤ 60) (hX : ∀ o, X.testBit o = true → o < R) (h : relC n nd R bt cl X ic cn co) (hr : r < R) (h0 : X.testBit r = false) (hk : csF n nd R bt cl r &&& X = 0) :
    relC n nd R bt cl (X ||| 2 ^ r) (updN ic r 1) (mix (bt r).testBit cn (fun c => cn c + 1) n) (mix (bt r).testBit co (fun c => cl (24 * r + c)) n) := by
  have hT := tabF (n := n) (nd := nd) bt cl hR
  obtain ⟨h1, h2, h3⟩ := h
  refine ⟨?_, ?_, ?_⟩
  · intro o ho
    rw [tb_or2]
    by_cases e : o = r
    · subst e; rw [updN_s]; simp
    · rw [updN_n e, h1 o ho, decide_eq_false (Ne.symm e), Bool.or_false]
  · intro c hc
    unfold mix
    by_cases e : (bt r).testBit c = true
    · rw [if_pos ⟨hc, e⟩, pc_more hT hr h0 e]
      show cn c + 1 = _
      rw [h2 c hc]
    · have e' : (bt r).testBit c = false := by simpa using e
      rw [if_neg (fun a => e a.2), pc_same hT e', h2 c hc]
  · intro o c ho c1 c2 c3
    rw [tb_or2, Bool.or_eq_true, decide_eq_true_iff] at ho
    unfold mix
    by_cases e : (bt r).testBit c = true
    · rw [if_pos ⟨c2, e⟩]
      rcases ho with ho | ho
      · rw [and0] at hk
        refine Classical.byContradiction (fun hne => ?_)
        have a : (csF n nd R bt cl r).testBit o = true := by
          rw [csF_tb]
          exact ⟨hr, hX o ho, (fun q => by rw [q, ho] at h0; cases h0), c, c2, c1, e, c3, Or.inr hne⟩
        rw [hk o a] at ho; cases ho
      · rw [ho]
    · rw [if_neg (fun a => e a.2)]
      rcases ho with ho | ho
      · exact h3 o c ho c1 c2 c3
      · rw [ho] at e; exact absurd c3 e
theorem relC_off {n nd R : Nat} {bt cl ic cn co : Nat → Nat} {X r : Nat} (hR : R ≤ 60) (h : relC n nd R bt cl (X ||| 2 ^ r) ic cn co) (hr : r < R) (h0 : X.testBit r = false) :
    (∀ c, c < n → (bt r).testBit c = true → 1 ≤ cn c) ∧ relC n nd R bt cl X (updN ic r 0) (mix (bt r).testBit cn (fun c => cn c - 1) n) co := by
  have hT := tabF (n := n) (nd := nd) bt cl hR
  obtain ⟨h1, h2, h3⟩ := h
  refine ⟨?_, ?_, ?_, ?_⟩
  · intro c hc e
    rw [h2 c hc, pc_more hT hr h0 e]; omega
  · intro o ho
    by_cases e : o = r
    · subst e; rw [updN_s, h0]; rfl
    · rw [updN_n e, h1 o ho, tb_or2, decide_eq_false (Ne.symm e), Bool.or_false]
  · intro c hc
    unfold mix
    by_cases e : (bt r).testBit c = true
    · rw [if_pos ⟨hc, e⟩]
      show cn c - 1 = _
      rw [h2 c hc, pc_more hT hr h0 e]; omega
    · have e' : (bt r).testBit c = false := by simpa using e
      rw [if_neg (fun a => e a.2), h2 c hc, pc_same hT e']
  · intro o c ho c1 c2 c3
    exact h3 o c (by rw [tb_or2, ho, Bool.true_or]) c1 c2 c3
theorem pc_ex {x : Nat} : ∀ n, pc x n ≠ 0 → ∃ i, i < n ∧ x.testBit i = true
  | 0, h => absurd rfl h
  | n + 1, h => by
    cases e : x.testBit n
    · rw [pc, e] at h
      obtain ⟨i, i1, i2⟩ := pc_ex n h
      exact ⟨i, by omega, i2⟩
    · exact ⟨n, by omega, e⟩
theorem pc_pos {x n i : Nat} (hi : i < n) (h : x.testBit i = true) : pc x n ≠ 0 := by
  have e := pc_strict (x := 0) (y := x) (n := n) (r := i) (fun k _ hk => by rw [Nat.zero_testBit] at hk; cases hk) hi (Nat.zero_testBit _) h
  omega
theorem fits_iff {n nd R : Nat} {tm bt cl ic cn co : Nat → Nat} {X r : Nat} (hR : R ≤ 60) (hnd : nd ≤ n) (hX : ∀ o, X.testBit o = true → o < R) (h : relC n nd R bt cl X ic cn co) (hr : r < R) (h0 : X.testBit r = false) :
    allK (ftB nd tm bt cl cn co r) n 0 = true ↔ csF n nd R bt cl r &&& X = 0 ∧ ∀ c, c < nd → (bt r).testBit c = true → pc (roF R bt c &&& X) 64 < duF nd tm c := by
  obtain ⟨h1, h2, h3⟩ := h
  rw [allK_iff]
  constructor
  · intro a
    refine ⟨?_, ?_⟩
    · rw [and0]
      intro o ho
      rw [csF_tb] at ho
      obtain ⟨o1, o2, o3, c, c1, c2, c3, c4, c5⟩ := ho
      cases hq : X.testBit o
      · rfl
      · exfalso
        have b := a c (by omega) (by omega)
        unfold ftB at b
        rw [c3, if_neg (by omega), h3 o c hq c2 c1 c4] at b
        have hz : cn c ≠ 0 := by
          rw [h2 c c1]
          exact pc_pos (i := o) (by omega) (by rw [Nat.testBit_and, roF_tb, hq, c4, decide_eq_true o2]; rfl)
        rw [decide_eq_false hz] at b
        rcases c5 with c5 | c5
        · rw [decide_eq_true c5] at b; cases b
        · rw [decide_eq_false c5, Bool.and_false] at b; cases b
    · intro c c1 c2
      have b := a c (by omega) (by omega)
      unfold ftB at b
      rw [c2, if_pos c1, h2 c (by omega)] at b
      unfold duF
      rw [if_pos c1]
      exact decide_eq_true_iff.1 b
  · rintro ⟨a, b⟩ c c1 c2
    unfold ftB
    cases hc : (bt r).testBit c
    · rfl
    · show (if c < nd then _ else _) = true
      by_cases e : c < nd
      · rw [if_pos e, decide_eq_true_iff, h2 c (by omega)]
        have b2 := b c e hc
        unfold duF at b2
        rw [if_pos e] at b2
        exact b2
      · rw [if_neg e]
        by_cases hz : cn c = 0
        · rw [decide_eq_true hz]; rfl
        · rw [decide_eq_false hz, Bool.false_or]
          rw [h2 c (by omega)] at hz
          obtain ⟨o, o1, o2⟩ := pc_ex 64 hz
          rw [Nat.testBit_and, Bool.and_eq_true, roF_tb, Bool.and_eq_true, decide_eq_true_iff] at o2
          rw [and0] at a
          have a2 : (csF n nd R bt cl r).testBit o = false := by
            cases hq : (csF n nd R bt cl r).testBit o
            · rfl
            · have := a o hq; rw [o2.2] at this; cases this
          have hne : r ≠ o := fun q => by rw [q, o2.2] at h0; cases h0
          have a3 : ¬ (cl (24 * r + c) = 0 ∨ cl (24 * r + c) ≠ cl (24 * o + c)) := by
            intro q
            have : (csF n nd R bt cl r).testBit o = true := by
              rw [csF_tb]
              exact ⟨hr, o2.1.1, hne, c, by omega, by omega, hc, o2.1.2, q⟩
            rw [a2] at this; cases this
          rw [h3 o c o2.2 (by omega) (by omega) o2.1.2]
          have a4 : ¬ cl (24 * r + c) = 0 := fun q => a3 (Or.inl q)
          have a5 : cl (24 * r + c) = cl (24 * o + c) := Classical.byContradiction (fun q => a3 (Or.inr q))
          rw [decide_eq_false a4, decide_eq_true a5]; rfl
/-- a table as both sides keep it -/
def TB (n nd R : Nat) (tm bt cl : Nat → Nat) : Prop :=
  1 ≤ n ∧ n ≤ 24 ∧ nd ≤ n ∧ R ≤ 60 ∧ (∀ r, bt r < 2 ^ n) ∧ (∀ r, R ≤ r → bt r = 0) ∧ (∀ j, cl j ≤ 7) ∧ (∀ c, tm c ≤ 3) ∧ ∀ c, c < 24 → 1 ≤ tm c
theorem TB.b24 {n nd R : Nat} {tm bt cl : Nat → Nat} (h : TB n nd R tm bt cl) (r : Nat) : bt r < 16777216 := Nat.lt_of_lt_of_le (h.2.2.2.2.1 r) (qt_p24 h.2.1)
theorem relC_cn {n nd R : Nat} {bt cl ic cn co : Nat → Nat} {X : Nat} (h : relC n nd R bt cl X ic cn co) (c : Nat) (hc : c < n) : cn c < 2147483648 := by
  rw [h.2.1 c hc]
  have := pc_le (roF R bt c &&& X) 64
  omega
theorem relC_co {n nd R : Nat} {tm bt cl ic cn co : Nat → Nat} {X : Nat} (hT : TB n nd R tm bt cl) (h : relC n nd R bt cl X ic cn co) (c : Nat) (h0 : nd ≤ c) (hc : c < n) : co c < 2147483648 ∨ cn c = 0 := by
  by_cases hz : cn c = 0
  · exact Or.inr hz
  · left
    rw [h.2.1 c hc] at hz
    obtain ⟨o, o1, o2⟩ := pc_ex 64 hz
    rw [Nat.testBit_and, Bool.and_eq_true, roF_tb, Bool.and_eq_true] at o2
    rw [h.2.2 o c o2.2 h0 hc o2.1.2]
    have := hT.2.2.2.2.2.2.1 (24 * o + c)
    omega
theorem qu_fits {n nd R : Nat} {tm bt cl ic cn co : Nat → Nat} {X r : Nat} (hT : TB n nd R tm bt cl) (h : relC n nd R bt cl X ic cn co) (hr : r < R) :
    f_X5_fits (nI n) (nI nd) (aI tm) (aI bt) (aI cl) (aI cn) (aI co) (nI r) = some (nI (allK (ftB nd tm bt cl cn co r) n 0).toNat, ()) := by
  have h60 := hT.2.2.2.1
  exact qr_fits hT.2.1 hT.2.2.1 (hT.b24 r) (by omega) (fun c _ => Nat.lt_of_le_of_lt (hT.2.2.2.2.2.2.2.1 c) (by decide)) (relC_cn h) (fun j => Nat.lt_of_le_of_lt (hT.2.2.2.2.2.2.1 j) (by decide)) (relC_co hT h)
theorem need_iff {nd x : Nat} : (!decide (x &&& (2 ^ nd - 1) = 0)) = true ↔ ∃ c, c < nd ∧ x.testBit c = true := by
  rw [Bool.not_eq_true', decide_eq_false_iff_not, and0]
  constructor
  · intro h
    refine Classical.byContradiction (fun hno => h (fun i hi => ?_))
    rw [Nat.testBit_two_pow_sub_one]
    exact decide_eq_false (fun q => hno ⟨i, q, hi⟩)
  · rintro ⟨c, c1, c2⟩ h
    have := h c c2
    rw [Nat.testBit_two_pow_sub_one, decide_eq_true c1] at this
    cases this
theorem qu_isOpen {n nd R : Nat} {tm bt cl ic cn co : Nat → Nat} {X r : Nat} (hT : TB n nd R tm bt cl) (hX : ∀ o, X.testBit o = true → o < R) (h : relC n nd R bt cl X ic cn co) (hr : r < R) :
    ∃ b : Bool, f_X5_isOpen (nI n) (nI nd) (aI tm) (aI bt) (aI cl) (aI ic) (aI cn) (aI co) (nI r) = some (nI b.toNat, ()) ∧ (b = true ↔ frT n nd R tm bt cl X r) := by
  have h60 := hT.2.2.2.1
  have hn := hT.2.1
  have hnd := hT.2.2.1
  unfold f_X5_isOpen f_X5_isOpen_29 f_X5_isOpen_30
  rw [qr_hasNeeded (by omega) (hT.b24 r) (by omega), Option.bind_some]
  have hic := h.1 r (by omega)
  simp (disch := omega) only [qz_i0, qz_i1, qz_i2, qz_i3, qz_i4, qz_i5, qz_i6, qz_i7, qz_i8, qz_i9, qz_i24, qz_i27, qz_i31, qz_i60, qz_i61, qz_i100, qz_i101, qz_i50000, qz_i100000, ql_i0, ql_i1, ql_i63, ql_m1, qz_m1, qz_le, qz_lt, qz_eq, qz_add, qz_mul, qz_sub, qz_an, qz_ix, qz_and, qz_or, qz_shl, qz_shr, qz_andn, ql_eq, ql_and, ql_or, ql_shl, ql_shr, ql_andn, ql_of, qz_k31, qz_k63, qz_bit, qz_b0, qz_b1, ql_b0, ql_b1, lg_0, qz_gd, Nat.one_shiftLeft, aI_ap, aL_ap, upd_aI, upd_aL, aV_ap, upd_aV, upd_aVm, hic, qu_fits hT h hr, Option.bind_some]
  have e1 := need_iff (nd := nd) (x := bt r)
  cases hb : (!decide (bt r &&& (2 ^ nd - 1) = 0))
  · rw [hb] at e1
    refine ⟨false, ?_, ?_⟩
    · rw [if_pos rfl, if_neg (by decide)]; rfl
    · constructor
      · intro a; cases a
      · intro a; exact absurd (e1.2 a.2.2.1) (by decide)
  · rw [hb] at e1
    rw [if_neg (by decide)]
    cases hx : X.testBit r
    · rw [if_pos rfl]
      have e2 := fits_iff (tm := tm) h60 hnd hX h hr hx
      cases hf : allK (ftB nd tm bt cl cn co r) n 0
      · rw [hf] at e2
        refine ⟨false, by rw [if_pos rfl, if_neg (by decide)]; rfl, ?_⟩
        constructor
        · intro a; cases a
        · intro a; exact absurd (e2.2 ⟨a.2.2.2.1, a.2.2.2.2⟩) (by decide)
      · rw [hf] at e2
        refine ⟨true, by rw [if_neg (by decide), if_neg (by decide)]; rfl, ?_⟩
        exact ⟨fun _ => ⟨hr, hx, e1.1 rfl, (e2.1 rfl).1, (e2.1 rfl).2⟩, fun _ => rfl⟩
    · rw [if_neg (by decide)]
      refine ⟨false, by rw [if_neg (by decide)]; rfl, ?_⟩
      constructor
      · intro a; cases a
      · intro a; have := a.2.1; rw [hx] at this; cases this
