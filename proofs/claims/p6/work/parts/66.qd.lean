def semA (nd R : Nat) (due rows cols cs : Nat → Nat) (s : SS) : Prop := ∀ j, j < s.2.2.2.2.2.2.2 → semL nd R due rows cols cs (s.2.2.1 j) (s.2.2.2.1 j) (s.2.2.2.2.1 j) (s.2.2.2.2.2.1 j) j
def kepA (nd R : Nat) (due rows cols cs : Nat → Nat) (s : SS) : Prop := ∀ i, i < s.2.1 → i < 100 → isW nd R due rows cols cs (s.2.2.2.2.2.2.1 i)
def pndA (nd : Nat) (due rows : Nat → Nat) (W : Nat) (s : SS) : Prop := ∃ j, j < s.2.2.2.2.2.2.2 ∧ (∃ c, c < nd ∧ pc (rows c &&& s.2.2.1 j) 64 < due c ∧ ∀ r, (s.2.2.2.2.1 j).testBit r = ((s.2.2.2.1 j).testBit r && (rows c).testBit r)) ∧ (∀ i, (s.2.2.1 j).testBit i = true → W.testBit i = true) ∧ ∀ i, W.testBit i = true → (s.2.2.1 j).testBit i = false → (s.2.2.2.1 j).testBit i = true
def cplA (nd R : Nat) (due rows cols cs : Nat → Nat) (start : Nat) (s : SS) : Prop := s.1 < 50000 → s.2.1 ≤ 100 → ∀ W, isW nd R due rows cols cs W → (∀ i, start.testBit i = true → W.testBit i = true) → (∃ i, i < s.2.1 ∧ s.2.2.2.2.2.2.1 i = W) ∨ pndA nd due rows W s
theorem pc_60 {R : Nat} {rows cols cs : Nat → Nat} (hT : tabS R rows cols cs) (c F : Nat) : pc (rows c &&& F) 64 ≤ 60 := by
  apply pc_hi
  intro i hi
  have h60 := hT.1
  rw [Nat.testBit_and, hT.2.1, decide_eq_false (p := i < R) (by omega), Bool.false_and, Bool.false_and]
theorem comeA_sem {nd R : Nat} {due rows cols cs : Nat → Nat} {ch fr uc un ke : Nat → Nat} {no fo l j : Nat} (hT : tabS R rows cols cs) (hs : semL nd R due rows cols cs (ch l) (fr l) 0 (uc l) j) (hk : ∀ i, i < fo → i < 100 → isW nd R due rows cols cs (ke i)) :
    (∀ r, ((comeA nd rows ch fr uc no fo un ke l).2.2.1 l).testBit r = true → (fr l).testBit r = true) ∧
    (∀ i, i < (comeA nd rows ch fr uc no fo un ke l).2.1 → i < 100 → isW nd R due rows cols cs ((comeA nd rows ch fr uc no fo un ke l).2.2.2 i)) ∧
    fo ≤ (comeA nd rows ch fr uc no fo un ke l).2.1 ∧ (∀ i, i < fo → (comeA nd rows ch fr uc no fo un ke l).2.2.2 i = ke i) ∧
    (no + 1 < 50000 → (comeA nd rows ch fr uc no fo un ke l).2.1 ≤ 100 → ∀ W, isW nd R due rows cols cs W → (∀ i, (ch l).testBit i = true → W.testBit i = true) →
      (∃ i, i < (comeA nd rows ch fr uc no fo un ke l).2.1 ∧ (comeA nd rows ch fr uc no fo un ke l).2.2.2 i = W) ∨
      ∃ c, c < nd ∧ pc (rows c &&& ch l) 64 < due c ∧ ∀ r, ((comeA nd rows ch fr uc no fo un ke l).2.2.1 l).testBit r = ((fr l).testBit r && (rows c).testBit r)) := by
  obtain ⟨s1, s2, s3, s4, s5, s6⟩ := hs
  unfold comeA
  by_cases h : no + 1 < 50000
  · rw [if_pos h]
    cases hq : (bestF (uc l).testBit (fun c => pc (rows c &&& fr l) 64) nd).1 with
    | none =>
      have hb := (bestF_none (uc l).testBit (fun c => pc (rows c &&& fr l) 64) (fun c => pc_60 hT c (fr l)) nd hq).2
      have hfull : ∀ c, c < nd → due c ≤ pc (rows c &&& ch l) 64 := by
        intro c hc
        have a := s1 c
        rw [hb c hc, decide_eq_true hc, Bool.true_and] at a
        have a2 := decide_eq_false_iff_not.1 a.symm
        omega
      have hway : isW nd R due rows cols cs (ch l) := ⟨s6, fun c hc => Nat.le_antisymm (s6.2.2 c hc) (hfull c hc)⟩
      refine ⟨?_, ?_, Nat.le_succ _, ?_, ?_⟩
      · intro r hr
        have hr' : (updN un l 0 l).testBit r = true := hr
        rw [updN_s, Nat.zero_testBit] at hr'
        cases hr'
      · intro i hi h100
        have hi' : i < fo + 1 := hi
        show isW nd R due rows cols cs ((if fo < 100 then updN ke fo (ch l) else ke) i)
        by_cases e : fo < 100
        · rw [if_pos e]
          by_cases e2 : i = fo
          · subst e2; rw [updN_s]; exact hway
          · rw [updN_n e2]; exact hk i (by omega) h100
        · rw [if_neg e]; exact hk i (by omega) h100
      · intro i hi
        show (if fo < 100 then updN ke fo (ch l) else ke) i = ke i
        by_cases e : fo < 100
        · rw [if_pos e, updN_n (by omega)]
        · rw [if_neg e]
      · intro _ h100 W hW hsub
        have h100' : fo + 1 ≤ 100 := h100
        left
        refine ⟨fo, by show fo < fo + 1; omega, ?_⟩
        show (if fo < 100 then updN ke fo (ch l) else ke) fo = W
        rw [if_pos (by omega), updN_s]
        exact way_eq hT hW hsub hfull
    | some c =>
      have hb := (bestF_lt (uc l).testBit (fun c => pc (rows c &&& fr l) 64) nd).2 c hq
      have hun : ∀ r, (updN un l (fr l &&& rows c) l).testBit r = ((fr l).testBit r && (rows c).testBit r) := by
        intro r; rw [updN_s, Nat.testBit_and]
      refine ⟨?_, hk, Nat.le_refl _, fun i _ => rfl, ?_⟩
      · intro r hr
        have hr' : (updN un l (fr l &&& rows c) l).testBit r = true := hr
        rw [hun, Bool.and_eq_true] at hr'
        exact hr'.1
      · intro _ h100 W hW hsub
        right
        refine ⟨c, hb.1, ?_, hun⟩
        have a := s1 c
        rw [hb.2.1, decide_eq_true hb.1, Bool.true_and] at a
        exact decide_eq_true_iff.1 a.symm
  · rw [if_neg h]
    refine ⟨?_, hk, Nat.le_refl _, fun i _ => rfl, fun a => absurd a h⟩
    intro r hr
    have hr' : (updN un l 0 l).testBit r = true := hr
    rw [updN_s, Nat.zero_testBit] at hr'
    cases hr'
theorem full_none {nd R : Nat} {due rows cols cs : Nat → Nat} {X F U C l : Nat} (hT : tabS R rows cols cs) (hs : semL nd R due rows cols cs X F U C l) (h : 60 ≤ l) : ∀ r, U.testBit r = false := by
  intro r
  cases hr : U.testBit r
  · rfl
  · exfalso
    obtain ⟨s1, s2, s3, s4, s5, s6⟩ := hs
    obtain ⟨f1, f2, _⟩ := s4 r (s5 r hr)
    have h60 := hT.1
    have e := pc_strict (x := X) (y := X ||| 2 ^ r) (n := 60) (r := r) (fun i _ hi => by rw [tb_or2, hi, Bool.true_or]) (by omega) f2 (by rw [tb_or2]; simp)
    have e2 := pc_le (X ||| 2 ^ r) 60
    omega
theorem lowb_tb {x : Nat} (hx : x < 2 ^ 60) (h0 : x ≠ 0) : x.testBit (lowb x 60 0) = true ∧ lowb x 60 0 < 60 := by
  obtain ⟨r, hr, _, h1, h2⟩ := qn_row hx h0
  rw [lowb_eq h1 h2 60 0 (by omega) (by omega)]
  exact ⟨h1, hr⟩
theorem stp_sem {n nd R : Nat} {due rows cols cs : Nat → Nat} {most start : Nat} {s : SS} (hT : tabS R rows cols cs) (hn : nd ≤ n) (hb : boA s) (hs : semA nd R due rows cols cs s) (hk : kepA nd R due rows cols cs s) (hc : cplA nd R due rows cols cs start s) (hh : ¬ hltA most s) :
    semA nd R due rows cols cs (stpA n nd due rows cols cs s) ∧ kepA nd R due rows cols cs (stpA n nd due rows cols cs s) ∧ cplA nd R due rows cols cs start (stpA n nd due rows cols cs s) := by
  obtain ⟨no, fo, ch, fr, un, uc, ke, lv⟩ := s
  have hh2 : ¬ lv = 0 ∧ no < 50000 ∧ fo < most := by
    refine ⟨fun c => hh (Or.inl c), ?_, ?_⟩
    · exact Nat.lt_of_not_le (fun c => hh (Or.inr (Or.inl c)))
    · exact Nat.lt_of_not_le (fun c => hh (Or.inr (Or.inr c)))
  obtain ⟨h1, h2, h3, h4⟩ := hb
  simp only at h1 h2 h3 h4
  have hlv : ∃ l, lv = l + 1 := ⟨lv - 1, by omega⟩
  obtain ⟨l, rfl⟩ := hlv
  have hsl : semL nd R due rows cols cs (ch l) (fr l) (un l) (uc l) l := hs l (by show l < l + 1; omega)
  have hl4 := h4 l (by omega)
  unfold stpA
  simp only [Nat.add_sub_cancel]
  by_cases hq : un l = 0 ∨ 60 ≤ l
  · rw [if_pos hq]
    have hz : ∀ r, (un l).testBit r = false := by
      rcases hq with hq | hq
      · intro r; rw [hq, Nat.zero_testBit]
      · exact full_none hT hsl hq
    refine ⟨fun j hj => hs j (by have : j < l := hj; show j < l + 1; omega), hk, ?_⟩
    intro a1 a2 W hW hst
    rcases hc a1 a2 W hW hst with h | ⟨j, j1, ⟨c, c1, c2, c3⟩, j3, j4⟩
    · exact Or.inl h
    · have j1' : j < l + 1 := j1
      by_cases e : j = l
      · exfalso
        subst e
        -- some row of the way is in the column and isn't chosen yet
        have h60 := hT.1
        have c2' : pc (rows c &&& ch j) 64 < due c := c2
        have hex : ∃ i, i < 64 ∧ (rows c &&& W).testBit i = true ∧ (rows c &&& ch j).testBit i = false := by
          refine Classical.byContradiction (fun hno => ?_)
          have e1 : pc (rows c &&& W) 64 ≤ pc (rows c &&& ch j) 64 := pc_mono (fun i hi hw => by
            cases hx : (rows c &&& ch j).testBit i
            · exact absurd ⟨i, hi, hw, hx⟩ hno
            · rfl)
          have e2 := hW.2 c c1
          omega
        obtain ⟨i, i1, i2, i3⟩ := hex
        rw [Nat.testBit_and, Bool.and_eq_true] at i2
        rw [Nat.testBit_and, i2.1, Bool.true_and] at i3
        have e3 := c3 i
        have e4 : (fr j).testBit i = true := j4 i i2.2 i3
        have e5 : (un j).testBit i = ((fr j).testBit i && (rows c).testBit i) := e3
        rw [hz i, e4, i2.1] at e5
        cases e5
      · exact Or.inr ⟨j, by show j < l; omega, ⟨c, c1, c2, c3⟩, j3, j4⟩
  · rw [if_neg hq]
    simp only [not_or, Nat.not_le] at hq
    have hlow := lowb_tb hl4.1 hq.1
    generalize lowb (un l) 60 0 = r at hlow ⊢
    obtain ⟨s1, s2, s3, s4, s5, s6⟩ := hsl
    have hch := sem_choose (n := n) (V := 0) hT hn ⟨s1, s2, s3, s4, s5, s6⟩ hlow.1 (fun o ho => by rw [Nat.zero_testBit] at ho; cases ho)
    have hcm := comeA_sem (ch := updN ch (l + 1) (chN ch l r)) (fr := updN (updN fr l (bdf (fr l) (2 ^ r))) (l + 1) (frN n nd due rows cols cs ch fr uc l r)) (uc := updN uc (l + 1) (bdf (uc l) (coN nd due rows cols ch uc l r))) (un := updN un l (bdf (un l) (2 ^ r))) (ke := ke) (no := no) (fo := fo) (l := l + 1) (j := l + 1) hT (by rw [updN_s, updN_s, updN_s]; exact hch) hk
    have hca := (comeA_lt nd rows (updN ch (l + 1) (chN ch l r)) (updN (updN fr l (bdf (fr l) (2 ^ r))) (l + 1) (frN n nd due rows cols cs ch fr uc l r)) (updN uc (l + 1) (bdf (uc l) (coN nd due rows cols ch uc l r))) no fo (updN un l (bdf (un l) (2 ^ r))) ke (l + 1) (by rw [updN_s]; exact Nat.lt_of_le_of_lt (Nat.le_trans (bdf_le _ _) (Nat.le_trans (bdf_le _ _) (bdf_le _ _))) hl4.2.2))
    generalize hD : comeA nd rows (updN ch (l + 1) (chN ch l r)) (updN (updN fr l (bdf (fr l) (2 ^ r))) (l + 1) (frN n nd due rows cols cs ch fr uc l r)) (updN uc (l + 1) (bdf (uc l) (coN nd due rows cols ch uc l r))) no fo (updN un l (bdf (un l) (2 ^ r))) ke (l + 1) = D at hcm hca ⊢
    obtain ⟨m1, m2, m3, m4, m5⟩ := hcm
    obtain ⟨ca1, ca2, ca3, ca4⟩ := hca
    simp only [updN_s] at m1 m5
    have hul : D.2.2.1 l = bdf (un l) (2 ^ r) := by rw [ca4 l (by omega), updN_s]
    refine ⟨?_, m2, ?_⟩
    · intro j hj
      have hj' : j < l + 2 := hj
      show semL nd R due rows cols cs (updN ch (l + 1) (chN ch l r) j) (updN (updN fr l (bdf (fr l) (2 ^ r))) (l + 1) (frN n nd due rows cols cs ch fr uc l r) j) (D.2.2.1 j) (updN uc (l + 1) (bdf (uc l) (coN nd due rows cols ch uc l r)) j) j
      by_cases e : j = l + 1
      · subst e
        rw [updN_s, updN_s, updN_s]
        obtain ⟨t1, t2, t3, t4, t5, t6⟩ := hch
        exact ⟨t1, t2, t3, t4, m1, t6⟩
      · rw [updN_n e, updN_n e, updN_n e]
        by_cases e2 : j = l
        · subst e2
          rw [updN_s, hul]
          refine ⟨s1, s2, s3, fun o ho => s4 o ?_, fun o ho => ?_, s6⟩
          · rw [bdf_tb, Bool.and_eq_true] at ho; exact ho.1
          · rw [bdf_tb, Bool.and_eq_true] at ho ⊢
            exact ⟨s5 o ho.1, ho.2⟩
        · rw [updN_n e2, ca4 j e, updN_n e2]
          exact hs j (by show j < l + 1; omega)
    · intro a1 a2 W hW hst
      have a1' : no + 1 < 50000 := by have : D.1 < 50000 := a1; omega
      have a2' : D.2.1 ≤ 100 := a2
      rcases hc hh2.2.1 (by show fo ≤ 100; omega) W hW hst with ⟨i, i1, i2⟩ | ⟨j, j1, ⟨c, c1, c2, c3⟩, j3, j4⟩
      · left
        have i1' : i < fo := i1
        exact ⟨i, by show i < D.2.1; omega, by show D.2.2.2 i = W; rw [m4 i i1']; exact i2⟩
      · have j1' : j < l + 1 := j1
        by_cases e : j = l
        · subst e
          have j3' : ∀ i, (ch j).testBit i = true → W.testBit i = true := j3
          have j4' : ∀ i, W.testBit i = true → (ch j).testBit i = false → (fr j).testBit i = true := j4
          by_cases hrW : W.testBit r = true
          · have hp := pend_choose (n := n) (r := r) hT hW (fun c hc => by rw [s1 c, Bool.and_eq_true, decide_eq_true_iff] at hc; exact hc.1) j3' j4' hrW
            have hm := m5 a1' a2' W hW hp.1
            rcases hm with hm | ⟨c', d1, d2, d3⟩
            · exact Or.inl hm
            · right
              refine ⟨j + 1, by show j + 1 < j + 2; omega, ⟨c', d1, ?_, ?_⟩, ?_, ?_⟩
              · show pc (rows c' &&& updN ch (j + 1) (chN ch j r) (j + 1)) 64 < due c'; rw [updN_s]; exact d2
              · intro o
                show (D.2.2.1 (j + 1)).testBit o = ((updN (updN fr j (bdf (fr j) (2 ^ r))) (j + 1) (frN n nd due rows cols cs ch fr uc j r) (j + 1)).testBit o && (rows c').testBit o)
                rw [updN_s]; exact d3 o
              · intro i
                show (updN ch (j + 1) (chN ch j r) (j + 1)).testBit i = true → _
                rw [updN_s]; exact hp.1 i
              · intro i
                show _ → (updN ch (j + 1) (chN ch j r) (j + 1)).testBit i = false → (updN (updN fr j (bdf (fr j) (2 ^ r))) (j + 1) (frN n nd due rows cols cs ch fr uc j r) (j + 1)).testBit i = true
                rw [updN_s, updN_s]; exact hp.2 i
          · right
            refine ⟨j, by show j < j + 2; omega, ⟨c, c1, ?_, ?_⟩, ?_, ?_⟩
            · show pc (rows c &&& updN ch (j + 1) (chN ch j r) j) 64 < due c
              rw [updN_n (by omega)]; exact c2
            · intro o
              show (D.2.2.1 j).testBit o = ((updN (updN fr j (bdf (fr j) (2 ^ r))) (j + 1) (frN n nd due rows cols cs ch fr uc j r) j).testBit o && (rows c).testBit o)
              rw [hul, updN_n (by omega), updN_s, bdf_tb, bdf_tb, show (un j).testBit o = ((fr j).testBit o && (rows c).testBit o) from c3 o]
              cases (fr j).testBit o <;> cases (rows c).testBit o <;> simp
            · intro i
              show (updN ch (j + 1) (chN ch j r) j).testBit i = true → _
              rw [updN_n (by omega)]; exact j3' i
            · intro i hi
              show (updN ch (j + 1) (chN ch j r) j).testBit i = false → (updN (updN fr j (bdf (fr j) (2 ^ r))) (j + 1) (frN n nd due rows cols cs ch fr uc j r) j).testBit i = true
              rw [updN_n (by omega), updN_n (by omega), updN_s, bdf_tb, Nat.testBit_two_pow]
              intro h0
              rw [j4' i hi h0, decide_eq_false (fun e => hrW (by rw [e]; exact hi))]
              rfl
        · right
          refine ⟨j, by show j < l + 2; omega, ⟨c, c1, ?_, ?_⟩, ?_, ?_⟩
          · show pc (rows c &&& updN ch (l + 1) (chN ch l r) j) 64 < due c
            rw [updN_n (by omega)]; exact c2
          · intro o
            show (D.2.2.1 j).testBit o = ((updN (updN fr l (bdf (fr l) (2 ^ r))) (l + 1) (frN n nd due rows cols cs ch fr uc l r) j).testBit o && (rows c).testBit o)
            rw [ca4 j (by omega), updN_n e, updN_n (by omega), updN_n e]
            exact c3 o
          · intro i
            show (updN ch (l + 1) (chN ch l r) j).testBit i = true → _
            rw [updN_n (by omega)]; exact j3 i
          · intro i hi
            show (updN ch (l + 1) (chN ch l r) j).testBit i = false → (updN (updN fr l (bdf (fr l) (2 ^ r))) (l + 1) (frN n nd due rows cols cs ch fr uc l r) j).testBit i = true
            rw [updN_n (by omega), updN_n (by omega), updN_n e]
            exact j4 i hi
theorem runA_inv {n nd : Nat} {due rows cols cs : Nat → Nat} {most : Nat} (P : SS → Prop) (h : ∀ s, P s → ¬ hltA most s → P (stpA n nd due rows cols cs s)) : ∀ m s, P s → P (runA n nd due rows cols cs most m s)
  | 0, s, hp => hp
  | m + 1, s, hp => by
    rw [runA]
    by_cases hh : hltA most s
    · rw [@if_pos _ (Classical.propDecidable _) hh]; exact hp
    · rw [@if_neg _ (Classical.propDecidable _) hh]; exact runA_inv P h m _ (h s hp hh)
theorem runA_hlt {n nd : Nat} {due rows cols cs : Nat → Nat} {most : Nat} : ∀ m s, boA s → muA s ≤ m → hltA most (runA n nd due rows cols cs most m s)
  | 0, s, hb, hm => by
    have h : 2 * (50000 - s.1) + s.2.2.2.2.2.2.2 ≤ 0 := hm
    exact Or.inl (by show s.2.2.2.2.2.2.2 = 0; omega)
  | m + 1, s, hb, hm => by
    rw [runA]
    by_cases hh : hltA most s
    · rw [@if_pos _ (Classical.propDecidable _) hh]; exact hh
    · rw [@if_neg _ (Classical.propDecidable _) hh]
      have a := boA_stp (n := n) (nd := nd) (due := due) (rows := rows) (cols := cols) (cs := cs) hb hh
      exact runA_hlt m _ a.1 (by omega)
theorem fitA_tb {n nd R : Nat} {due rows cols cs : Nat → Nat} (hT : tabS R rows cols cs) (hn : nd ≤ n) {X r : Nat} : (fitA n nd R due rows cs X).testBit r = true ↔ frS nd R due rows cols cs X r := by
  unfold fitA
  rw [fitL_tb, bdf_tb, bdf_tb, rwa_tb, rwa_tb]
  simp only [Bool.and_eq_true, Bool.not_eq_true', decide_eq_true_iff, decide_eq_false_iff_not]
  have hN : ∀ c, (2 ^ nd - 1).testBit c = decide (c < nd) := fun c => Nat.testBit_two_pow_sub_one nd c
  have hcov : ∀ c, (bdf (2 ^ nd - 1) (bs (unP due rows (2 ^ nd - 1) X) nd)).testBit c = (decide (c < nd) && !decide (pc (rows c &&& X) 64 < due c)) := by
    intro c
    rw [bdf_tb, bs_tb, hN]
    unfold unP
    rw [hN]
    by_cases h : c < nd
    · rw [decide_eq_true h]; simp
    · rw [decide_eq_false h]; simp
  constructor
  · rintro ⟨⟨⟨⟨c, c1, c2, c3⟩, h2⟩, h3⟩, h4⟩
    rw [hN, decide_eq_true_iff] at c2
    rw [hT.2.1, Bool.and_eq_true, decide_eq_true_iff] at c3
    refine ⟨c3.1, h2, ⟨c, c2, c3.2⟩, h4 c3.1, ?_⟩
    intro k k1 k2
    refine Classical.byContradiction (fun hno => h3 ⟨k, by omega, ?_, ?_⟩)
    · rw [hcov, decide_eq_true k1, decide_eq_false hno]; rfl
    · rw [hT.2.1, decide_eq_true c3.1, k2]; rfl
  · rintro ⟨f1, f2, ⟨c, c1, c2⟩, f4, f5⟩
    refine ⟨⟨⟨⟨c, by omega, ?_, ?_⟩, f2⟩, ?_⟩, fun _ => f4⟩
    · rw [hN, decide_eq_true c1]
    · rw [hT.2.1, decide_eq_true f1, c2]; rfl
    · rintro ⟨k, k1, k2, k3⟩
      rw [hcov, Bool.and_eq_true, decide_eq_true_iff, Bool.not_eq_true', decide_eq_false_iff_not] at k2
      rw [hT.2.1, Bool.and_eq_true] at k3
      exact k2.2 (f5 k k2.1 k3.2)
theorem beg_sem {n nd R : Nat} {due rows cols cs : Nat → Nat} {ch fr un uc ke : Nat → Nat} {start : Nat} (hT : tabS R rows cols cs) (hn : nd ≤ n) (hst : okS nd R due rows cols cs start) (hlt : start < 2 ^ 60) :
    semA nd R due rows cols cs (begA n nd R due rows cs ch fr un uc ke start) ∧ kepA nd R due rows cols cs (begA n nd R due rows cs ch fr un uc ke start) ∧ cplA nd R due rows cols cs start (begA n nd R due rows cs ch fr un uc ke start) := by
  have huc : ∀ c, (bs (unP due rows (2 ^ nd - 1) start) nd).testBit c = (decide (c < nd) && decide (pc (rows c &&& start) 64 < due c)) := by
    intro c
    rw [bs_tb]
    unfold unP
    rw [Nat.testBit_two_pow_sub_one]
    by_cases h : c < nd
    · rw [decide_eq_true h]; simp
    · rw [decide_eq_false h]; simp
  have h0 : semL nd R due rows cols cs (updN ch 0 start 0) (updN fr 0 (fitA n nd R due rows cs start) 0) 0 (updN uc 0 (bs (unP due rows (2 ^ nd - 1) start) nd) 0) 0 := by
    rw [updN_s, updN_s, updN_s]
    exact ⟨huc, hlt, Nat.zero_le _, fun r hr => (fitA_tb hT hn).1 hr, (fun r hr => by rw [Nat.zero_testBit] at hr; cases hr), hst⟩
  have hcm := comeA_sem (un := un) (ke := ke) (no := 0) (fo := 0) hT h0 (fun i hi => by omega)
  obtain ⟨m1, m2, m3, m4, m5⟩ := hcm
  refine ⟨?_, m2, ?_⟩
  · intro j hj
    have hj' : j < 1 := hj
    have e : j = 0 := by omega
    subst e
    obtain ⟨t1, t2, t3, t4, t5, t6⟩ := h0
    exact ⟨t1, t2, t3, t4, m1, t6⟩
  · intro a1 a2 W hW hsub
    rcases m5 (by decide) a2 W hW (by rw [updN_s]; exact hsub) with h | ⟨c, c1, c2, c3⟩
    · exact Or.inl h
    · right
      refine ⟨0, by show 0 < 1; decide, ⟨c, c1, c2, c3⟩, ?_, ?_⟩
      · intro i
        show (updN ch 0 start 0).testBit i = true → _
        rw [updN_s]; exact hsub i
      · intro i hi
        show (updN ch 0 start 0).testBit i = false → (updN fr 0 (fitA n nd R due rows cs start) 0).testBit i = true
        rw [updN_s, updN_s]
        intro hx
        rw [fitA_tb hT hn]
        have h60 := hT.1
        have hWi := hW.1.1 i hi
        refine ⟨hWi.1, hx, hWi.2, ?_, ?_⟩
        · have a := hW.1.2.1 i hi
          rw [and0] at a ⊢
          intro o ho
          cases hq : start.testBit o
          · rfl
          · have b := a o ho
            rw [hsub o hq] at b
            cases b
        · intro c c1 c2
          have e := pc_strict (x := rows c &&& start) (y := rows c &&& W) (n := 64) (r := i) (fun k _ hk => by
            rw [Nat.testBit_and, Bool.and_eq_true] at hk ⊢
            exact ⟨hk.1, hsub k hk.2⟩) (by omega) (by rw [Nat.testBit_and, hx, Bool.and_false]) (by rw [Nat.testBit_and, hT.2.1, c2, hi, decide_eq_true hWi.1]; rfl)
          have e2 := hW.2 c c1
          omega
theorem run_sem {n nd R : Nat} {due rows cols cs : Nat → Nat} {ch fr un uc ke : Nat → Nat} {start most : Nat} (hT : tabS R rows cols cs) (hn : nd ≤ n) (hnd : nd ≤ 24) (hrb : ∀ c, rows c < 2 ^ 60) (hst : okS nd R due rows cols cs start) (hlt : start < 2 ^ 60) :
    hltA most (runA n nd due rows cols cs most 100000 (begA n nd R due rows cs ch fr un uc ke start)) ∧ boA (runA n nd due rows cols cs most 100000 (begA n nd R due rows cs ch fr un uc ke start)) ∧ semA nd R due rows cols cs (runA n nd due rows cols cs most 100000 (begA n nd R due rows cs ch fr un uc ke start)) ∧ kepA nd R due rows cols cs (runA n nd due rows cols cs most 100000 (begA n nd R due rows cs ch fr un uc ke start)) ∧ cplA nd R due rows cols cs start (runA n nd due rows cols cs most 100000 (begA n nd R due rows cs ch fr un uc ke start)) := by
  have hb := qs_beg (n := n) (nd := nd) (R := R) (due := due) (rows := rows) (cs := cs) (ch := ch) (fr := fr) (un := un) (uc := uc) (ke := ke) (start := start) hnd hrb
  have hs := beg_sem (n := n) (ch := ch) (fr := fr) (un := un) (uc := uc) (ke := ke) hT hn hst hlt
  refine ⟨runA_hlt _ _ hb.1 (by rw [hb.2]; decide), ?_⟩
  exact runA_inv (fun s => boA s ∧ semA nd R due rows cols cs s ∧ kepA nd R due rows cols cs s ∧ cplA nd R due rows cols cs start s)
    (fun s hp hh => ⟨(boA_stp hp.1 hh).1, stp_sem hT hn hp.1 hp.2.1 hp.2.2.1 hp.2.2.2 hh⟩) 100000 _ ⟨hb.1, hs⟩
