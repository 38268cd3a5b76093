-- turns of the columns take ways to ways
def cnt (P : Nat → Bool) : Nat → Nat
  | 0 => 0
  | n + 1 => cnt P n + (P n).toNat
theorem pc_cnt (x : Nat) : ∀ n, pc x n = cnt x.testBit n
  | 0 => rfl
  | n + 1 => by rw [pc, cnt, pc_cnt x n]
theorem cnt_congr {P Q : Nat → Bool} : ∀ n, (∀ c, c < n → P c = Q c) → cnt P n = cnt Q n
  | 0, _ => rfl
  | n + 1, h => by rw [cnt, cnt, cnt_congr n (fun c hc => h c (by omega)), h n (by omega)]
theorem cnt_mono {P Q : Nat → Bool} : ∀ n, (∀ c, c < n → P c = true → Q c = true) → cnt P n ≤ cnt Q n
  | 0, _ => Nat.le_refl _
  | n + 1, h => by
    rw [cnt, cnt]
    have h1 := cnt_mono n (fun c hc => h c (by omega))
    have h2 := h n (by omega)
    cases hp : P n
    · have : (false : Bool).toNat = 0 := rfl
      omega
    · rw [h2 hp]; omega
theorem cnt_0 {P : Nat → Bool} : ∀ n, cnt P n = 0 ↔ ∀ c, c < n → P c = false
  | 0 => ⟨fun _ c hc => by omega, fun _ => rfl⟩
  | n + 1 => by
    rw [cnt]
    constructor
    · intro h c hc
      by_cases e : c = n
      · subst e
        cases hp : P c
        · rfl
        · rw [hp] at h; have : (true : Bool).toNat = 1 := rfl; omega
      · exact ((cnt_0 n).1 (by omega)) c (by omega)
    · intro h
      rw [(cnt_0 n).2 (fun c hc => h c (by omega)), h n (by omega)]; rfl
theorem cnt_eq {P Q : Nat → Bool} : ∀ n, (∀ c, c < n → P c = true → Q c = true) → cnt P n = cnt Q n → ∀ c, c < n → Q c = true → P c = true
  | 0, _, _ => fun c hc => by omega
  | n + 1, h, e => by
    rw [cnt, cnt] at e
    have h1 := cnt_mono n (fun c hc => h c (by omega))
    have h2 := h n (by omega)
    intro c hc hq
    by_cases ec : c = n
    · subst ec
      cases hp : P c
      · rw [hp, hq] at e
        have : (false : Bool).toNat = 0 := rfl
        have : (true : Bool).toNat = 1 := rfl
        omega
      · rfl
    · refine cnt_eq n (fun c hc => h c (by omega)) ?_ c (by omega) hq
      cases hp : P n
      · cases hqn : Q n
        · rw [hp, hqn] at e; omega
        · rw [hp, hqn] at e
          have : (false : Bool).toNat = 0 := rfl
          have : (true : Bool).toNat = 1 := rfl
          omega
      · rw [hp, h2 hp] at e; omega
theorem cnt_one {x : Nat} : ∀ n, cnt (fun c => decide (c = x)) n = if x < n then 1 else 0
  | 0 => rfl
  | n + 1 => by
    rw [cnt, cnt_one n]
    by_cases e : n = x
    · subst e
      rw [if_neg (by omega), if_pos (by omega), decide_eq_true rfl]; rfl
    · by_cases h : x < n
      · rw [if_pos h, if_pos (by omega), decide_eq_false e]; rfl
      · rw [if_neg h, if_neg (by omega), decide_eq_false e]; rfl
theorem cnt_ex {P : Nat → Bool} : ∀ n, cnt P n ≠ 0 → ∃ c, c < n ∧ P c = true
  | 0, h => absurd rfl h
  | n + 1, h => by
    cases e : P n
    · rw [cnt, e] at h
      obtain ⟨i, i1, i2⟩ := cnt_ex n h
      exact ⟨i, by omega, i2⟩
    · exact ⟨n, by omega, e⟩
/-- one place of a predicate changed -/
theorem cnt_upd {P Q : Nat → Bool} {a : Nat} : ∀ n, a < n → (∀ c, c < n → c ≠ a → P c = Q c) → cnt P n + (Q a).toNat = cnt Q n + (P a).toNat
  | 0, h, _ => by omega
  | n + 1, h, e => by
    rw [cnt, cnt]
    by_cases ea : a = n
    · subst ea
      rw [cnt_congr a (fun c hc => e c (by omega) (by omega))]; omega
    · have := cnt_upd n (by omega) (fun c hc => e c (by omega))
      rw [e n (by omega) (by omega)]; omega
theorem cnt_two {P : Nat → Bool} {a b n : Nat} (ha : a < n) (hb : b < n) (hab : a ≠ b) (hpa : P a = true) (hpb : P b = true) : 2 ≤ cnt P n := by
  have h1 := cnt_upd (P := P) (Q := fun c => if c = a then false else P c) (a := a) n ha (fun c _ hc => by rw [if_neg hc])
  have h2 : cnt (fun c => if c = a then false else P c) n ≠ 0 := by
    intro h
    have := (cnt_0 n).1 h b hb
    rw [if_neg (Ne.symm hab), hpb] at this
    cases this
  rw [hpa] at h1
  simp only [if_pos] at h1
  have : (false : Bool).toNat = 0 := rfl
  have : (true : Bool).toNat = 1 := rfl
  omega
/-- a turn: counting over the columns' goals counts the columns -/
def goP (n : Nat) (g : Nat → Nat) : Prop := ∀ P : Nat → Bool, cnt (fun c => P (g c)) n = cnt P n
theorem goP_id (n : Nat) : goP n (fun c => c) := fun P => rfl
theorem goP_lt {n : Nat} {g : Nat → Nat} (h : goP n g) {c : Nat} (hc : c < n) : g c < n := by
  have a := h (fun x => !decide (x < n))
  have b : cnt (fun x => !decide (x < n)) n = 0 := (cnt_0 n).2 (fun c hc => by rw [decide_eq_true hc]; rfl)
  rw [b] at a
  have := (cnt_0 n).1 a c hc
  simpa using this
theorem goP_sur {n : Nat} {g : Nat → Nat} (h : goP n g) {x : Nat} (hx : x < n) : ∃ c, c < n ∧ g c = x := by
  have a := h (fun c => decide (c = x))
  rw [cnt_one, if_pos hx] at a
  obtain ⟨c, c1, c2⟩ := cnt_ex n (by rw [a]; decide)
  exact ⟨c, c1, decide_eq_true_iff.1 c2⟩
theorem goP_inj {n : Nat} {g : Nat → Nat} (h : goP n g) {a b : Nat} (ha : a < n) (hb : b < n) (e : g a = g b) : a = b := by
  refine Classical.byContradiction (fun hab => ?_)
  have q := h (fun c => decide (c = g a))
  rw [cnt_one] at q
  have := cnt_two (P := fun c => decide (g c = g a)) ha hb hab (decide_eq_true rfl) (decide_eq_true e.symm)
  rw [q] at this
  split at this <;> omega
theorem goP_swap {n : Nat} {g g' : Nat → Nat} (h : goP n g) {a b : Nat} (ha : a < n) (hb : b < n) (hab : a ≠ b) (e1 : g' a = g b) (e2 : g' b = g a) (e3 : ∀ c, c ≠ a → c ≠ b → g' c = g c) : goP n g' := by
  intro P
  rw [← h P]
  have h1 := cnt_upd (P := fun c => P (g' c)) (Q := fun c => if c = a then P (g a) else P (g' c)) (a := a) n ha (fun c _ hc => by rw [if_neg hc])
  have h2 := cnt_upd (P := fun c => if c = a then P (g a) else P (g' c)) (Q := fun c => P (g c)) (a := b) n hb (fun c _ hc => by
    by_cases e : c = a
    · rw [if_pos e, e]
    · rw [if_neg e, e3 c e hc])
  simp only [if_pos] at h1
  rw [if_neg (Ne.symm hab), e2] at h2
  rw [e1] at h1
  omega
/-- a row goes to a row, column by column with its colours -/
def imB (n : Nat) (bt cl g : Nat → Nat) (r q : Nat) : Bool := decide (pc (bt r) 24 = pc (bt q) 24) && allK (fun c => !(bt r).testBit c || ((bt q).testBit (g c) && decide (cl (24 * r + c) = cl (24 * q + g c)))) n 0
theorem pc_n {n x : Nat} (hn : n ≤ 24) (h : x < 2 ^ n) : pc x 24 = cnt x.testBit n := by
  have e : 24 = n + (24 - n) := by omega
  rw [e, pc_top (fun i hi => tb_hi h hi), pc_cnt]
theorem imB_tb {n : Nat} {bt cl g : Nat → Nat} {r q : Nat} (hn : n ≤ 24) (hb : ∀ r, bt r < 2 ^ n) (hg : goP n g) (h : imB n bt cl g r q = true) : (∀ c, c < n → (bt q).testBit (g c) = (bt r).testBit c) ∧ ∀ c, c < n → (bt r).testBit c = true → cl (24 * r + c) = cl (24 * q + g c) := by
  unfold imB at h
  rw [Bool.and_eq_true, decide_eq_true_iff, allK_iff, pc_n hn (hb r), pc_n hn (hb q)] at h
  obtain ⟨h1, h2⟩ := h
  have h3 : ∀ c, c < n → (bt r).testBit c = true → (bt q).testBit (g c) = true ∧ cl (24 * r + c) = cl (24 * q + g c) := by
    intro c hc hr
    have a := h2 c (by omega) (by omega)
    rw [hr] at a
    simp only [Bool.not_true, Bool.false_or, Bool.and_eq_true, decide_eq_true_iff] at a
    exact a
  refine ⟨fun c hc => ?_, fun c hc hr => (h3 c hc hr).2⟩
  have e : cnt (bt r).testBit n = cnt (fun c => (bt q).testBit (g c)) n := by rw [hg (bt q).testBit]; exact h1
  cases hr : (bt r).testBit c
  · cases hq : (bt q).testBit (g c)
    · rfl
    · have := cnt_eq n (fun c hc hr => (h3 c hc hr).1) e c hc hq
      rw [hr] at this; cases this
  · exact (h3 c hc hr).1
/-- the rows to which the rows of a set go -/
def imS (rho : Nat → Nat) (W : Nat) : Nat → Nat
  | 0 => 0
  | k + 1 => imS rho W k ||| (if W.testBit k then 2 ^ rho k else 0)
theorem imS_tb (rho : Nat → Nat) (W q : Nat) : ∀ k, (imS rho W k).testBit q = true ↔ ∃ r, r < k ∧ W.testBit r = true ∧ rho r = q
  | 0 => ⟨fun h => (by rw [imS, Nat.zero_testBit] at h; cases h), fun ⟨r, h, _⟩ => by omega⟩
  | k + 1 => by
    rw [imS, Nat.testBit_or, Bool.or_eq_true, imS_tb rho W q k]
    constructor
    · rintro (⟨r, r1, r2, r3⟩ | h)
      · exact ⟨r, by omega, r2, r3⟩
      · by_cases hw : W.testBit k = true
        · rw [if_pos hw, Nat.testBit_two_pow, decide_eq_true_iff] at h; exact ⟨k, by omega, hw, h⟩
        · rw [if_neg hw, Nat.zero_testBit] at h; cases h
    · rintro ⟨r, r1, r2, r3⟩
      by_cases e : r = k
      · right; subst e; rw [if_pos r2, Nat.testBit_two_pow, decide_eq_true_iff]; exact r3
      · left; exact ⟨r, by omega, r2, r3⟩
theorem imS_pc {rho : Nat → Nat} {W B : Nat} : ∀ k, (∀ r, r < k → rho r < 64) → (∀ a b, a < k → b < k → rho a = rho b → a = b) → pc (B &&& imS rho W k) 64 = cnt (fun r => W.testBit r && B.testBit (rho r)) k
  | 0, _, _ => by rw [imS, Nat.and_zero, cnt]; decide
  | k + 1, h, hi => by
    have ih := imS_pc (rho := rho) (W := W) (B := B) k (fun r hr => h r (by omega)) (fun a b ha hb => hi a b (by omega) (by omega))
    rw [cnt, ← ih, imS]
    by_cases hw : W.testBit k = true
    · rw [if_pos hw, hw, Bool.true_and]
      have h0 : (imS rho W k).testBit (rho k) = false := by
        cases e : (imS rho W k).testBit (rho k)
        · rfl
        · obtain ⟨r, r1, r2, r3⟩ := (imS_tb rho W (rho k) k).1 e
          have := hi r k (by omega) (by omega) r3
          omega
      cases hB : B.testBit (rho k)
      · show _ = _ + 0
        rw [Nat.add_zero]
        apply pc_congr
        intro i hi2
        rw [Nat.testBit_and, Nat.testBit_and, tb_or2]
        by_cases e : rho k = i
        · rw [← e, hB, Bool.false_and, Bool.false_and]
        · rw [decide_eq_false e, Bool.or_false]
      · show _ = _ + 1
        refine pc_bit (r := rho k) (h k (by omega)) ?_ ?_ ?_
        · rw [Nat.testBit_and, h0, Bool.and_false]
        · rw [Nat.testBit_and, tb_or2, hB]; simp
        · intro i hi2 e
          rw [Nat.testBit_and, Nat.testBit_and, tb_or2, decide_eq_false (Ne.symm e), Bool.or_false]
    · have hw' : W.testBit k = false := by simpa using hw
      rw [if_neg hw, Nat.or_zero, hw', Bool.false_and]; rfl
theorem way_im {n nd R : Nat} {tm bt cl g rho : Nat → Nat} {W : Nat} (hT : TB n nd R tm bt cl) (hg : goP n g) (hc : ∀ c, c < n → ((c < nd ↔ g c < nd) ∧ (c < nd → tm c = tm (g c)))) (hr : ∀ r, r < R → rho r < R ∧ imB n bt cl g r (rho r) = true) (hna : ∀ r q, r < R → q < r → imB n bt cl (fun c => c) r q = false)
    (hW : isW nd R (duF nd tm) (roF R bt) bt (csF n nd R bt cl) W) : isW nd R (duF nd tm) (roF R bt) bt (csF n nd R bt cl) (imS rho W R) := by
  have h60 := hT.2.2.2.1
  have hn := hT.2.1
  have hnd := hT.2.2.1
  have him := fun r (h : r < R) => imB_tb hn hT.2.2.2.2.1 hg (hr r h).2
  have hinj0 : ∀ a b, a < R → b < a → rho a = rho b → False := by
    intro a b ha hb e
    have h1 := him a ha
    have h2 := him b (by omega)
    rw [e] at h1
    have hbit : ∀ c, c < n → (bt a).testBit c = (bt b).testBit c := fun c hc => by rw [← h1.1 c hc, h2.1 c hc]
    have : imB n bt cl (fun c => c) a b = true := by
      unfold imB
      rw [Bool.and_eq_true, decide_eq_true_iff, allK_iff, pc_n hn (hT.2.2.2.2.1 a), pc_n hn (hT.2.2.2.2.1 b)]
      refine ⟨cnt_congr n hbit, fun c c1 c2 => ?_⟩
      have hb2 := hbit c (by omega)
      cases ha2 : (bt a).testBit c
      · rfl
      · have k1 := h1.2 c (by omega) ha2
        have k2 := h2.2 c (by omega) (by rw [← hb2]; exact ha2)
        rw [← hb2, ha2, k1, k2, decide_eq_true rfl]; rfl
    rw [hna a b ha hb] at this
    cases this
  have hinj : ∀ a b, a < R → b < R → rho a = rho b → a = b := by
    intro a b ha hb e
    rcases Nat.lt_trichotomy a b with h | h | h
    · exact (hinj0 b a hb h e.symm).elim
    · exact h
    · exact (hinj0 a b ha h e).elim
  have hcount : ∀ c, c < n → pc (roF R bt (g c) &&& imS rho W R) 64 = pc (roF R bt c &&& W) 64 := by
    intro c hc
    rw [imS_pc R (fun r h => by have := (hr r h).1; omega) hinj, pc_R h60, pc_cnt]
    apply cnt_congr
    intro r hrr
    rw [roF_tb, Nat.testBit_and, roF_tb, (him r hrr).1 c hc, decide_eq_true hrr, decide_eq_true (hr r hrr).1, Bool.true_and, Bool.and_comm]
  have hdue : ∀ c, c < nd → ∃ c0, c0 < nd ∧ g c0 = c ∧ duF nd tm c = duF nd tm c0 := by
    intro c c1
    obtain ⟨c0, d1, d2⟩ := goP_sur hg (show c < n by omega)
    have d3 := hc c0 d1
    have d4 : c0 < nd := d3.1.2 (by rw [d2]; exact c1)
    refine ⟨c0, d4, d2, ?_⟩
    unfold duF
    rw [if_pos c1, if_pos d4, d3.2 d4, d2]
  have heq : ∀ c, c < nd → pc (roF R bt c &&& imS rho W R) 64 = duF nd tm c := by
    intro c c1
    obtain ⟨c0, d1, d2, d3⟩ := hdue c c1
    rw [d3, ← d2, hcount c0 (by omega)]
    exact hW.2 c0 d1
  refine ⟨⟨?_, ?_, fun c c1 => Nat.le_of_eq (heq c c1)⟩, heq⟩
  · intro q hq
    obtain ⟨r, r1, r2, r3⟩ := (imS_tb rho W q R).1 hq
    obtain ⟨w1, c, c1, c2⟩ := hW.1.1 r r2
    have a := hr r r1
    rw [r3] at a
    refine ⟨a.1, g c, ?_, ?_⟩
    · exact ((hc c (by omega)).1).1 c1
    · rw [← r3, (him r r1).1 c (by omega)]; exact c2
  · intro q hq
    rw [and0]
    intro q2 hq2
    cases hx : (imS rho W R).testBit q2
    · rfl
    · exfalso
      obtain ⟨r, r1, r2, r3⟩ := (imS_tb rho W q R).1 hq
      obtain ⟨s, s1, s2, s3⟩ := (imS_tb rho W q2 R).1 hx
      rw [csF_tb] at hq2
      obtain ⟨k1, k2, k3, c, c1, c2, c3, c4, c5⟩ := hq2
      obtain ⟨c0, d1, d2⟩ := goP_sur hg c1
      have hcl := hW.1.2.1 r r2
      rw [and0] at hcl
      have e1 : (bt r).testBit c0 = true := by rw [← (him r r1).1 c0 d1, r3, d2]; exact c3
      have e2 : (bt s).testBit c0 = true := by rw [← (him s s1).1 c0 d1, s3, d2]; exact c4
      have : (csF n nd R bt cl r).testBit s = true := by
        rw [csF_tb]
        refine ⟨r1, s1, ?_, c0, d1, ?_, e1, e2, ?_⟩
        · intro e; subst e; rw [r3] at s3; exact k3 s3
        · refine Nat.le_of_not_lt (fun z => ?_)
          have := ((hc c0 d1).1).1 z
          omega
        · rw [(him r r1).2 c0 d1 e1, (him s s1).2 c0 d1 e2, r3, s3, d2]; exact c5
      rw [hcl s this] at s2
      cases s2
