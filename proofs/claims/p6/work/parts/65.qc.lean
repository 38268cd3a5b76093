-- what the stacks of THE SEARCH mean, and that all ways are found
theorem pc_mono {x y n : Nat} (h : ∀ i, i < n → x.testBit i = true → y.testBit i = true) : pc x n ≤ pc y n := by
  induction n with
  | zero => exact Nat.le_refl _
  | succ n ih =>
    rw [pc, pc]
    have h1 := ih (fun i hi => h i (by omega))
    have h2 := h n (by omega)
    cases hx : x.testBit n
    · have : (false : Bool).toNat = 0 := rfl
      omega
    · rw [h2 hx]; omega
theorem pc_strict {x y n r : Nat} (h : ∀ i, i < n → x.testBit i = true → y.testBit i = true) (hr : r < n) (hx : x.testBit r = false) (hy : y.testBit r = true) : pc x n + 1 ≤ pc y n := by
  induction n with
  | zero => omega
  | succ n ih =>
    rw [pc, pc]
    by_cases e : r = n
    · subst e
      have h1 := pc_mono (x := x) (y := y) (n := r) (fun i hi => h i (by omega))
      rw [hx, hy]
      have : (false : Bool).toNat = 0 := rfl
      have : (true : Bool).toNat = 1 := rfl
      omega
    · have h1 := ih (fun i hi => h i (by omega)) (by omega)
      have h2 := h n (by omega)
      cases hxn : x.testBit n
      · have : (false : Bool).toNat = 0 := rfl
        omega
      · rw [h2 hxn]; omega
theorem pc_bit {x y n r : Nat} (hr : r < n) (hx : x.testBit r = false) (hy : y.testBit r = true) (h : ∀ i, i < n → i ≠ r → y.testBit i = x.testBit i) : pc y n = pc x n + 1 := by
  induction n with
  | zero => omega
  | succ n ih =>
    rw [pc, pc]
    by_cases e : r = n
    · subst e
      rw [hx, hy, pc_congr (fun i hi => h i (by omega) (by omega))]
      rfl
    · rw [ih (by omega) (fun i hi => h i (by omega)), h n (by omega) (by omega)]
      omega
theorem pc_hi {x a : Nat} (h : ∀ i, a ≤ i → x.testBit i = false) : ∀ n, pc x n ≤ a
  | 0 => Nat.zero_le _
  | n + 1 => by
    by_cases e : n + 1 ≤ a
    · exact Nat.le_trans (pc_le _ _) e
    · rw [pc, h n (by omega)]
      exact pc_hi h n
theorem tb_hi {x a i : Nat} (h : x < 2 ^ a) (hi : a ≤ i) : x.testBit i = false := Nat.testBit_lt_two_pow (Nat.lt_of_lt_of_le h (Nat.pow_le_pow_right (by decide) hi))
theorem and0 {x y : Nat} : x &&& y = 0 ↔ ∀ i, x.testBit i = true → y.testBit i = false := by
  constructor
  · intro h i hx
    have h2 := congrArg (fun z : Nat => z.testBit i) h
    simp only [Nat.testBit_and, Nat.zero_testBit, hx, Bool.true_and] at h2
    exact h2
  · intro h
    apply Nat.eq_of_testBit_eq
    intro i
    rw [Nat.testBit_and, Nat.zero_testBit]
    cases hx : x.testBit i
    · rfl
    · rw [h i hx]; rfl
/-- rows that fit together, each with a needed column -/
def okS (nd R : Nat) (due rows cols cs : Nat → Nat) (X : Nat) : Prop :=
  (∀ r, X.testBit r = true → r < R ∧ ∃ c, c < nd ∧ (cols r).testBit c = true) ∧ (∀ r, X.testBit r = true → cs r &&& X = 0) ∧ ∀ c, c < nd → pc (rows c &&& X) 64 ≤ due c
def isW (nd R : Nat) (due rows cols cs : Nat → Nat) (X : Nat) : Prop := okS nd R due rows cols cs X ∧ ∀ c, c < nd → pc (rows c &&& X) 64 = due c
/-- what a row may be that is still free beside the chosen ones -/
def frS (nd R : Nat) (due rows cols cs : Nat → Nat) (X r : Nat) : Prop :=
  r < R ∧ X.testBit r = false ∧ (∃ c, c < nd ∧ (cols r).testBit c = true) ∧ cs r &&& X = 0 ∧ ∀ c, c < nd → (cols r).testBit c = true → pc (rows c &&& X) 64 < due c
def semL (nd R : Nat) (due rows cols cs : Nat → Nat) (X F U C j : Nat) : Prop :=
  (∀ c, C.testBit c = (decide (c < nd) && decide (pc (rows c &&& X) 64 < due c))) ∧ X < 2 ^ 60 ∧ j ≤ pc X 60 ∧ (∀ r, F.testBit r = true → frS nd R due rows cols cs X r) ∧ (∀ r, U.testBit r = true → F.testBit r = true) ∧ okS nd R due rows cols cs X
/-- the table's rows and what excludes one another, as sets -/
def tabS (R : Nat) (rows cols cs : Nat → Nat) : Prop :=
  R ≤ 60 ∧ (∀ c r, (rows c).testBit r = (decide (r < R) && (cols r).testBit c)) ∧ (∀ r o, (cs r).testBit o = (cs o).testBit r) ∧ ∀ r, (cs r).testBit r = false
theorem tb_or2 (x r i : Nat) : (x ||| 2 ^ r).testBit i = (x.testBit i || decide (r = i)) := by rw [Nat.testBit_or, Nat.testBit_two_pow]
theorem pc_same {R : Nat} {rows cols cs : Nat → Nat} (hT : tabS R rows cols cs) {X r c : Nat} (h : (cols r).testBit c = false) : pc (rows c &&& (X ||| 2 ^ r)) 64 = pc (rows c &&& X) 64 := by
  apply pc_congr
  intro i hi
  rw [Nat.testBit_and, Nat.testBit_and, tb_or2]
  by_cases e : r = i
  · subst e
    rw [hT.2.1, h, Bool.and_false, Bool.false_and, Bool.false_and]
  · rw [decide_eq_false e, Bool.or_false]
theorem pc_more {R : Nat} {rows cols cs : Nat → Nat} (hT : tabS R rows cols cs) {X r c : Nat} (hr : r < R) (hX : X.testBit r = false) (h : (cols r).testBit c = true) : pc (rows c &&& (X ||| 2 ^ r)) 64 = pc (rows c &&& X) 64 + 1 := by
  have h60 := hT.1
  refine pc_bit (r := r) (by omega) ?_ ?_ ?_
  · rw [Nat.testBit_and, hX, Bool.and_false]
  · rw [Nat.testBit_and, tb_or2, hT.2.1, h, decide_eq_true hr, decide_eq_true rfl, Bool.or_true]
    rfl
  · intro i hi e
    rw [Nat.testBit_and, Nat.testBit_and, tb_or2, decide_eq_false (Ne.symm e), Bool.or_false]
theorem pc_sub {rows : Nat → Nat} {X Y c : Nat} (h : ∀ i, X.testBit i = true → Y.testBit i = true) : pc (rows c &&& X) 64 ≤ pc (rows c &&& Y) 64 := by
  apply pc_mono
  intro i hi
  rw [Nat.testBit_and, Nat.testBit_and, Bool.and_eq_true, Bool.and_eq_true]
  exact fun a => ⟨a.1, h i a.2⟩
theorem co_tb {nd : Nat} {due rows cols : Nat → Nat} {C r X c : Nat} : (bdf (C &&& cols r) (bs (unP due rows (C &&& cols r) X) nd)).testBit c = ((C.testBit c && (cols r).testBit c) && !(decide (c < nd) && decide (pc (rows c &&& X) 64 < due c))) := by
  rw [bdf_tb, bs_tb, Nat.testBit_and]
  unfold unP
  rw [Nat.testBit_and]
  cases C.testBit c <;> cases (cols r).testBit c <;> simp
theorem sem_choose {n nd R : Nat} {due rows cols cs : Nat → Nat} {X F U C j r V : Nat} (hT : tabS R rows cols cs) (hn : nd ≤ n) (hs : semL nd R due rows cols cs X F U C j) (hr : U.testBit r = true)
    (hV : ∀ o, V.testBit o = true → (bdf (bdf (bdf F (2 ^ r)) (cs r)) (rwa rows (bdf (C &&& cols r) (bs (unP due rows (C &&& cols r) (X ||| 2 ^ r)) nd)) n)).testBit o = true) :
    semL nd R due rows cols cs (X ||| 2 ^ r) (bdf (bdf (bdf F (2 ^ r)) (cs r)) (rwa rows (bdf (C &&& cols r) (bs (unP due rows (C &&& cols r) (X ||| 2 ^ r)) nd)) n)) V (bdf C (bdf (C &&& cols r) (bs (unP due rows (C &&& cols r) (X ||| 2 ^ r)) nd))) (j + 1) := by
  obtain ⟨s1, s2, s3, s4, s5, s6⟩ := hs
  have h60 := hT.1
  have hF := s4 r (s5 r hr)
  obtain ⟨f1, f2, f3, f4, f5⟩ := hF
  have hsub : ∀ i, X.testBit i = true → (X ||| 2 ^ r).testBit i = true := fun i hi => by rw [tb_or2, hi, Bool.true_or]
  refine ⟨?_, ?_, ?_, ?_, hV, ?_⟩
  · intro c
    rw [bdf_tb, co_tb, s1 c]
    by_cases hc : (cols r).testBit c = true
    · rw [hc]
      by_cases h1 : c < nd
      · by_cases h2 : pc (rows c &&& X) 64 < due c
        · rw [decide_eq_true h1, decide_eq_true h2]; simp
        · have h3 := pc_sub (rows := rows) (c := c) hsub
          rw [decide_eq_true h1, decide_eq_false h2, decide_eq_false (p := pc (rows c &&& (X ||| 2 ^ r)) 64 < due c) (by omega)]; simp
      · rw [decide_eq_false h1]; simp
    · have hc' : (cols r).testBit c = false := by simpa using hc
      rw [hc', pc_same hT hc']; simp
  · refine Nat.or_lt_two_pow s2 (Nat.pow_lt_pow_right (by decide) (by omega))
  · have h1 : pc (X ||| 2 ^ r) 60 = pc X 60 + 1 := pc_bit (r := r) (by omega) f2 (by rw [tb_or2]; simp) (fun i hi e => by rw [tb_or2, decide_eq_false (Ne.symm e), Bool.or_false])
    omega
  · intro o ho
    rw [bdf_tb, bdf_tb, bdf_tb, Nat.testBit_two_pow, rwa_tb] at ho
    simp only [Bool.and_eq_true, Bool.not_eq_true', decide_eq_false_iff_not] at ho
    obtain ⟨⟨⟨o1, o2⟩, o3⟩, o4⟩ := ho
    obtain ⟨g1, g2, g3, g4, g5⟩ := s4 o o1
    refine ⟨g1, ?_, g3, ?_, ?_⟩
    · rw [tb_or2, g2, decide_eq_false o2]; rfl
    · rw [and0] at g4 ⊢
      intro i hi
      rw [tb_or2, g4 i hi, Bool.false_or]
      refine decide_eq_false (fun e => ?_)
      subst e
      rw [hT.2.2.1, o3] at hi
      cases hi
    · intro c c1 c2
      have h1 := g5 c c1 c2
      by_cases hc : (cols r).testBit c = true
      · by_cases h2 : pc (rows c &&& (X ||| 2 ^ r)) 64 < due c
        · exact h2
        · exfalso
          apply o4
          refine ⟨c, by omega, ?_, ?_⟩
          · rw [co_tb, s1 c, hc, decide_eq_true c1, decide_eq_true h1, decide_eq_false h2]; rfl
          · rw [hT.2.1, c2, decide_eq_true g1]; rfl
      · have hc' : (cols r).testBit c = false := by simpa using hc
        rw [pc_same hT hc']; exact h1
  · obtain ⟨k1, k2, k3⟩ := s6
    refine ⟨?_, ?_, ?_⟩
    · intro i hi
      rw [tb_or2, Bool.or_eq_true, decide_eq_true_iff] at hi
      rcases hi with hi | hi
      · exact k1 i hi
      · subst hi; exact ⟨f1, f3⟩
    · intro i hi
      rw [tb_or2, Bool.or_eq_true, decide_eq_true_iff] at hi
      rw [and0]
      intro o ho
      rw [tb_or2]
      rcases hi with hi | hi
      · have a := k2 i hi
        rw [and0] at a f4
        rw [a o ho, Bool.false_or]
        refine decide_eq_false (fun e => ?_)
        subst e
        rw [hT.2.2.1] at ho
        rw [f4 i ho] at hi
        cases hi
      · subst hi
        rw [and0] at f4
        rw [f4 o ho, Bool.false_or]
        refine decide_eq_false (fun e => ?_)
        subst e
        rw [hT.2.2.2] at ho
        cases ho
    · intro c hc
      by_cases h : (cols r).testBit c = true
      · have a := f5 c hc h
        rw [pc_more hT f1 f2 h]; omega
      · have h' : (cols r).testBit c = false := by simpa using h
        rw [pc_same hT h']; exact k3 c hc
/-- a way that is still to come below a node stays so below its child -/
theorem pend_choose {n nd R : Nat} {due rows cols cs : Nat → Nat} {X F C r W : Nat} (hT : tabS R rows cols cs) (hW : isW nd R due rows cols cs W) (hC : ∀ c, C.testBit c = true → c < nd) (h1 : ∀ i, X.testBit i = true → W.testBit i = true) (h2 : ∀ i, W.testBit i = true → X.testBit i = false → F.testBit i = true) (hr : W.testBit r = true) :
    (∀ i, (X ||| 2 ^ r).testBit i = true → W.testBit i = true) ∧ ∀ i, W.testBit i = true → (X ||| 2 ^ r).testBit i = false → (bdf (bdf (bdf F (2 ^ r)) (cs r)) (rwa rows (bdf (C &&& cols r) (bs (unP due rows (C &&& cols r) (X ||| 2 ^ r)) nd)) n)).testBit i = true := by
  have h60 := hT.1
  have hs : ∀ i, (X ||| 2 ^ r).testBit i = true → W.testBit i = true := by
    intro i hi
    rw [tb_or2, Bool.or_eq_true, decide_eq_true_iff] at hi
    rcases hi with hi | hi
    · exact h1 i hi
    · subst hi; exact hr
  refine ⟨hs, ?_⟩
  intro i hi hn
  rw [tb_or2, Bool.or_eq_false_iff, decide_eq_false_iff_not] at hn
  rw [bdf_tb, bdf_tb, bdf_tb, Nat.testBit_two_pow, rwa_tb]
  simp only [Bool.and_eq_true, Bool.not_eq_true', decide_eq_false_iff_not]
  refine ⟨⟨⟨h2 i hi hn.1, hn.2⟩, ?_⟩, ?_⟩
  · cases hq : (cs r).testBit i
    · rfl
    · have a := hW.1.2.1 r hr
      rw [and0] at a
      rw [a i hq] at hi
      cases hi
  · rintro ⟨c, c1, c2, c3⟩
    rw [co_tb] at c2
    simp only [Bool.and_eq_true, Bool.not_eq_true'] at c2
    obtain ⟨⟨d1, d2⟩, d3⟩ := c2
    have hcn := hC c d1
    rw [decide_eq_true hcn, Bool.true_and, decide_eq_false_iff_not] at d3
    have hlt : i < 64 := by rw [hT.2.1, Bool.and_eq_true, decide_eq_true_iff] at c3; omega
    have e := pc_strict (x := rows c &&& (X ||| 2 ^ r)) (y := rows c &&& W) (n := 64) (r := i) (fun k _ hk => by
      rw [Nat.testBit_and, Bool.and_eq_true] at hk ⊢
      exact ⟨hk.1, hs k hk.2⟩) hlt (by rw [Nat.testBit_and, tb_or2, hn.1, decide_eq_false hn.2]; simp) (by rw [Nat.testBit_and, c3, hi]; rfl)
    have e2 := hW.2 c hcn
    omega
/-- a full set is the way that holds it -/
theorem way_eq {nd R : Nat} {due rows cols cs : Nat → Nat} {X W : Nat} (hT : tabS R rows cols cs) (hW : isW nd R due rows cols cs W) (h1 : ∀ i, X.testBit i = true → W.testBit i = true) (hf : ∀ c, c < nd → due c ≤ pc (rows c &&& X) 64) : X = W := by
  have h60 := hT.1
  apply Nat.eq_of_testBit_eq
  intro i
  cases hx : X.testBit i
  · cases hw : W.testBit i
    · rfl
    · exfalso
      obtain ⟨a1, c, c1, c2⟩ := hW.1.1 i hw
      have e := pc_strict (x := rows c &&& X) (y := rows c &&& W) (n := 64) (r := i) (fun k _ hk => by
        rw [Nat.testBit_and, Bool.and_eq_true] at hk ⊢
        exact ⟨hk.1, h1 k hk.2⟩) (by omega) (by rw [Nat.testBit_and, hx, Bool.and_false]) (by rw [Nat.testBit_and, hT.2.1, c2, hw, decide_eq_true a1]; rfl)
      have e2 := hW.2 c c1
      have e3 := hf c c1
      omega
  · exact (h1 i hx).symm
