theorem frS_mono {nd R : Nat} {due rows cols cs : Nat → Nat} {X r o : Nat} (h : frS nd R due rows cols cs (X ||| 2 ^ r) o) : frS nd R due rows cols cs X o ∧ o ≠ r := by
  obtain ⟨f1, f2, f3, f4, f5⟩ := h
  rw [tb_or2, Bool.or_eq_false_iff, decide_eq_false_iff_not] at f2
  refine ⟨⟨f1, f2.1, f3, ?_, ?_⟩, fun e => f2.2 e.symm⟩
  · rw [and0] at f4 ⊢
    intro i hi
    have a := f4 i hi
    rw [tb_or2, Bool.or_eq_false_iff] at a
    exact a.1
  · intro c c1 c2
    exact Nat.lt_of_le_of_lt (pc_sub (fun i hi => by rw [tb_or2, hi, Bool.true_or])) (f5 c c1 c2)
theorem frN_iff {n nd R : Nat} {due rows cols cs : Nat → Nat} {X F U C j r : Nat} {nb : Nat → Prop} (hT : tabS R rows cols cs) (hn : nd ≤ n) (hs : semL nd R due rows cols cs X F U C j) (hr : U.testBit r = true) (hF : ∀ o, o < R → (F.testBit o = true ↔ frS nd R due rows cols cs X o ∧ nb o)) (o : Nat) (ho : o < R) :
    (bdf (bdf (bdf F (2 ^ r)) (cs r)) (rwa rows (bdf (C &&& cols r) (bs (unP due rows (C &&& cols r) (X ||| 2 ^ r)) nd)) n)).testBit o = true ↔ frS nd R due rows cols cs (X ||| 2 ^ r) o ∧ nb o := by
  have hch := sem_choose (n := n) (V := 0) hT hn hs hr (fun o ho => by rw [Nat.zero_testBit] at ho; cases ho)
  constructor
  · intro h
    refine ⟨hch.2.2.2.1 o h, ?_⟩
    rw [bdf_tb, bdf_tb, bdf_tb] at h
    simp only [Bool.and_eq_true] at h
    exact ((hF o ho).1 h.1.1.1).2
  · rintro ⟨h, hb⟩
    have hm := frS_mono h
    have hf := (hF o ho).2 ⟨hm.1, hb⟩
    obtain ⟨f1, f2, f3, f4, f5⟩ := h
    rw [bdf_tb, bdf_tb, bdf_tb, Nat.testBit_two_pow, rwa_tb]
    simp only [Bool.and_eq_true, Bool.not_eq_true', decide_eq_false_iff_not]
    refine ⟨⟨⟨hf, fun e => hm.2 e.symm⟩, ?_⟩, ?_⟩
    · cases hq : (cs r).testBit o
      · rfl
      · rw [and0] at f4
        rw [hT.2.2.1] at hq
        have a := f4 r hq
        rw [tb_or2] at a
        simp at a
    · rintro ⟨c, c1, c2, c3⟩
      rw [co_tb] at c2
      simp only [Bool.and_eq_true, Bool.not_eq_true'] at c2
      have hC := c2.1.1
      rw [hs.1 c, Bool.and_eq_true, decide_eq_true_iff] at hC
      have c4 := c2.2
      rw [decide_eq_true hC.1, Bool.true_and, decide_eq_false_iff_not] at c4
      rw [hT.2.1, Bool.and_eq_true] at c3
      exact c4 (f5 c hC.1 c3.2)
/-- the reference's arrays beside the class's stacks -/
def relS (n nd R : Nat) (tm bt cl : Nat → Nat) (no : Nat) (ch fr un : Nat → Nat) (lv : Nat) (ic cn co ba cc cm nx : Nat → Nat) : Prop :=
  (∀ l, lv = l + 1 → relC n nd R bt cl (ch l) ic cn co) ∧
  (∀ j, j + 1 < lv → cc j < R ∧ ch (j + 1) = ch j ||| 2 ^ cc j ∧ (ch j).testBit (cc j) = false ∧ ba (cc j) = 0) ∧
  (∀ r, r < 60 → ba r ≤ lv) ∧ (∀ r, R ≤ r → r < 60 → ba r = 0) ∧
  (∀ j, j < lv → ∀ r, r < R → ((fr j).testBit r = true ↔ frT n nd R tm bt cl (ch j) r ∧ (¬ (1 ≤ ba r ∧ ba r ≤ j + 1) ∧ (j + 1 < lv → r ≠ cc j)))) ∧
  (no < 50000 → ∀ j, j < lv → (cm j = 0 ∧ un j = 0) ∨ ∃ c, c < nd ∧ cm j = c + 1 ∧ (∀ r, (un j).testBit r = ((fr j).testBit r && (roF R bt c).testBit r)) ∧ (∀ r, (un j).testBit r = true → nx j ≤ r) ∧ nx j ≤ R)
/-- the rows chosen at lower levels are among those chosen at higher ones -/
theorem relS_sub {ch cc : Nat → Nat} {lv : Nat} (h : ∀ j, j + 1 < lv → ch (j + 1) = ch j ||| 2 ^ cc j) : ∀ d j, j + d < lv → ∀ i, (ch j).testBit i = true → (ch (j + d)).testBit i = true
  | 0, j, _, i, hi => hi
  | d + 1, j, hd, i, hi => by
    have a := relS_sub h d j (by omega) i hi
    rw [show j + (d + 1) = (j + d) + 1 by omega, h (j + d) (by omega), tb_or2, a, Bool.true_or]
theorem relS_in {ch cc : Nat → Nat} {lv : Nat} (h : ∀ j, j + 1 < lv → ch (j + 1) = ch j ||| 2 ^ cc j) {j k : Nat} (hjk : j < k) (hk : k < lv) : (ch k).testBit (cc j) = true := by
  have a := relS_sub h (k - (j + 1)) (j + 1) (by omega) (cc j) (by rw [h j (by omega), tb_or2]; simp)
  rwa [show j + 1 + (k - (j + 1)) = k by omega] at a
theorem relS_leave {n nd R : Nat} {tm bt cl : Nat → Nat} {no : Nat} {ch fr un ic cn co ba cc cm nx : Nat → Nat} {l : Nat} (hR : R ≤ 60) (h : relS n nd R tm bt cl no ch fr un (l + 2) ic cn co ba cc cm nx) :
    (∀ c, c < n → (bt (cc l)).testBit c = true → 1 ≤ cn c) ∧
    relS n nd R tm bt cl no ch fr un (l + 1) (updN ic (cc l) 0) (mix (bt (cc l)).testBit cn (fun c => cn c - 1) n) co (updN (mix (fun q => decide (ba q = l + 1 + 1)) ba (fun _ => 0) R) (cc l) (l + 1)) cc cm nx := by
  obtain ⟨h1, h2, h3, h4, h5, h6⟩ := h
  obtain ⟨g1, g2, g3, g4⟩ := h2 l (by omega)
  have hrel := h1 (l + 1) rfl
  rw [g2] at hrel
  have hoff := relC_off hR hrel g1 g3
  have hsub : ∀ j, j + 1 < l + 2 → ch (j + 1) = ch j ||| 2 ^ cc j := fun j hj => (h2 j hj).2.1
  have hne : ∀ j, j < l → cc j ≠ cc l := by
    intro j hj e
    have a := relS_in hsub hj (show l < l + 2 by omega)
    rw [e, g3] at a
    cases a
  have hmix : ∀ q, q < R → mix (fun q => decide (ba q = l + 1 + 1)) ba (fun _ => 0) R q = if ba q = l + 2 then 0 else ba q := by
    intro q hq
    unfold mix
    by_cases e : ba q = l + 2
    · rw [if_pos ⟨hq, decide_eq_true e⟩, if_pos e]
    · rw [if_neg (fun a => e (decide_eq_true_iff.1 a.2)), if_neg e]
  have hmix2 : ∀ q, R ≤ q → mix (fun q => decide (ba q = l + 1 + 1)) ba (fun _ => 0) R q = ba q := fun q hq => if_neg (fun a => by omega)
  refine ⟨hoff.1, ?_, ?_, ?_, ?_, ?_, ?_⟩
  · intro l' e
    have : l' = l := by omega
    subst this
    exact hoff.2
  · intro j hj
    obtain ⟨k1, k2, k3, k4⟩ := h2 j (by omega)
    refine ⟨k1, k2, k3, ?_⟩
    rw [updN_n (hne j (by omega)), hmix _ k1, k4, if_neg (by omega)]
  · intro r hr
    by_cases e : r = cc l
    · rw [e, updN_s]; omega
    · rw [updN_n e]
      by_cases hrR : r < R
      · rw [hmix r hrR]
        have a := h3 r hr
        by_cases e2 : ba r = l + 2
        · rw [if_pos e2]; omega
        · rw [if_neg e2]; omega
      · rw [hmix2 r (by omega), h4 r (by omega) hr]; omega
  · intro r r1 r2
    rw [updN_n (by omega), hmix2 r r1]
    exact h4 r r1 r2
  · intro j hj r hr
    rw [h5 j (by omega) r hr]
    by_cases e : r = cc l
    · subst e
      rw [updN_s, g4]
      by_cases e2 : j = l
      · subst e2
        constructor
        · intro a; exact absurd rfl (a.2.2 (by omega))
        · intro a; exact absurd ⟨by omega, by omega⟩ a.2.1
      · constructor
        · intro a; exact ⟨a.1, by omega, fun _ => (hne j (by omega)).symm⟩
        · intro a; exact ⟨a.1, by omega, fun _ => (hne j (by omega)).symm⟩
    · rw [updN_n e, hmix r hr]
      constructor
      · intro a
        refine ⟨a.1, ?_, fun q => a.2.2 (by omega)⟩
        by_cases e2 : ba r = l + 2
        · rw [if_pos e2]; omega
        · rw [if_neg e2]; exact a.2.1
      · intro a
        refine ⟨a.1, ?_, ?_⟩
        · by_cases e2 : ba r = l + 2
          · omega
          · have b := a.2.1
            rw [if_neg e2] at b
            exact b
        · intro q
          by_cases e2 : j = l
          · rw [e2]; exact e
          · exact a.2.2 (by omega)
  · intro q j hj
    exact h6 q j (by omega)
theorem relS_come {n nd R : Nat} {tm bt cl : Nat → Nat} {no fo : Nat} {ch fr un uc ke ic cn co ba cc cm nx : Nat → Nat} {l r c : Nat} (hT : TB n nd R tm bt cl) (h : relS n nd R tm bt cl no ch fr un (l + 1) ic cn co ba cc cm nx)
    (hs : semL nd R (duF nd tm) (roF R bt) bt (csF n nd R bt cl) (ch l) (fr l) (un l) (uc l) l) (hr : (un l).testBit r = true) (hlow : ∀ i, i < r → (un l).testBit i = false) (hc : c < nd) (hcm : cm l = c + 1) (hno : no < 50000) (hl60 : l < 60)
    (hun : ∀ o, (un l).testBit o = ((fr l).testBit o && (roF R bt c).testBit o)) :
    relS n nd R tm bt cl (no + 1) (updN ch (l + 1) (chN ch l r)) (updN (updN fr l (bdf (fr l) (2 ^ r))) (l + 1) (frN n nd (duF nd tm) (roF R bt) bt (csF n nd R bt cl) ch fr uc l r))
      (comeA nd (roF R bt) (updN ch (l + 1) (chN ch l r)) (updN (updN fr l (bdf (fr l) (2 ^ r))) (l + 1) (frN n nd (duF nd tm) (roF R bt) bt (csF n nd R bt cl) ch fr uc l r)) (updN uc (l + 1) (bdf (uc l) (coN nd (duF nd tm) (roF R bt) bt ch uc l r))) no fo (updN un l (bdf (un l) (2 ^ r))) ke (l + 1)).2.2.1
      (l + 2) (updN ic r 1) (mix (bt r).testBit cn (fun c => cn c + 1) n) (mix (bt r).testBit co (fun c => cl (24 * r + c)) n) ba (updN cc l r)
      (if no + 1 = 50000 then cm else updN cm (l + 1) (ob (bestF ((updN uc (l + 1) (bdf (uc l) (coN nd (duF nd tm) (roF R bt) bt ch uc l r))) (l + 1)).testBit (fun c => pc (roF R bt c &&& (updN (updN fr l (bdf (fr l) (2 ^ r))) (l + 1) (frN n nd (duF nd tm) (roF R bt) bt (csF n nd R bt cl) ch fr uc l r)) (l + 1)) 64) nd).1))
      (if no + 1 = 50000 then updN nx l (r + 1) else updN (updN nx l (r + 1)) (l + 1) 0) := by
  have h60 := hT.2.2.2.1
  have htab := tabF (n := n) (nd := nd) bt cl h60
  obtain ⟨h1, h2, h3, h4, h5, h6⟩ := h
  have hfr := hs.2.2.2.2.1 r hr
  have hfs := hs.2.2.2.1 r hfr
  have hrb : ba r = 0 := by
    have a := ((h5 l (by omega) r hfs.1).1 hfr).2.1
    have b := h3 r (by have := hfs.1; omega)
    omega
  have hba60 : ∀ o, o < R → ba o ≤ l + 1 := fun o ho => h3 o (by omega)
  have hFl : ∀ o, o < R → ((fr l).testBit o = true ↔ frT n nd R tm bt cl (ch l) o ∧ ba o = 0) := by
    intro o ho
    rw [h5 l (by omega) o ho]
    have := hba60 o ho
    exact ⟨fun a => ⟨a.1, by have := a.2.1; omega⟩, fun a => ⟨a.1, by omega, fun q => by omega⟩⟩
  have hrF := frN_iff (nb := fun o => ba o = 0) htab hT.2.2.1 hs hr hFl
  have hX : ∀ o, (ch l).testBit o = true → o < R := fun o ho => (hs.2.2.2.2.2.1 o ho).1
  refine ⟨?_, ?_, ?_, h4, ?_, ?_⟩
  · intro l' e
    have : l' = l + 1 := by omega
    subst this
    rw [updN_s]
    exact relC_on h60 hX (h1 l rfl) hfs.1 hfs.2.1 hfs.2.2.2.1
  · intro j hj
    by_cases e : j = l
    · subst e
      rw [updN_s, updN_s, updN_n (by omega)]
      exact ⟨hfs.1, rfl, hfs.2.1, hrb⟩
    · obtain ⟨k1, k2, k3, k4⟩ := h2 j (by omega)
      rw [updN_n e, updN_n (by omega), updN_n (by omega)]
      exact ⟨k1, k2, k3, k4⟩
  · intro o ho
    have := h3 o ho
    omega
  · intro j hj o ho
    by_cases e : j = l + 1
    · subst e
      rw [updN_s, updN_s]
      have a := hrF o ho
      have b := hba60 o ho
      constructor
      · intro q
        have q2 := a.1 q
        exact ⟨q2.1, by have := q2.2; omega, fun z => by omega⟩
      · intro q
        exact a.2 ⟨q.1, by have := q.2.1; omega⟩
    · rw [updN_n e, updN_n e]
      by_cases e2 : j = l
      · subst e2
        rw [updN_s, updN_s, bdf_tb, Nat.testBit_two_pow]
        simp only [Bool.and_eq_true, Bool.not_eq_true', decide_eq_false_iff_not]
        have a := hFl o ho
        have b := hba60 o ho
        constructor
        · intro q
          have q2 := a.1 q.1
          exact ⟨q2.1, by have := q2.2; omega, fun _ z => q.2 z.symm⟩
        · intro q
          exact ⟨a.2 ⟨q.1, by have := q.2.1; omega⟩, fun z => q.2.2 (by omega) z.symm⟩
      · rw [updN_n e2, updN_n e2, h5 j (by omega) o ho]
        constructor
        · intro q; exact ⟨q.1, q.2.1, fun z => q.2.2 (by omega)⟩
        · intro q; exact ⟨q.1, q.2.1, fun z => q.2.2 (by omega)⟩
  · intro q j hj
    have hne : ¬ no + 1 = 50000 := by omega
    rw [if_neg hne, if_neg hne]
    have hca := comeA_lt nd (roF R bt) (updN ch (l + 1) (chN ch l r)) (updN (updN fr l (bdf (fr l) (2 ^ r))) (l + 1) (frN n nd (duF nd tm) (roF R bt) bt (csF n nd R bt cl) ch fr uc l r)) (updN uc (l + 1) (bdf (uc l) (coN nd (duF nd tm) (roF R bt) bt ch uc l r))) no fo (updN un l (bdf (un l) (2 ^ r))) ke (l + 1) (by
      rw [updN_s]
      refine Nat.lt_pow_two_of_testBit _ (fun i hi => ?_)
      cases hq : (frN n nd (duF nd tm) (roF R bt) bt (csF n nd R bt cl) ch fr uc l r).testBit i
      · rfl
      · have hq2 := hq
        unfold frN at hq2
        rw [bdf_tb, bdf_tb, bdf_tb] at hq2
        simp only [Bool.and_eq_true] at hq2
        have := (hs.2.2.2.1 i hq2.1.1.1).1
        omega)
    by_cases e : j = l + 1
    · subst e
      rw [updN_s, updN_s, updN_s, updN_s]
      cases hq : (bestF (bdf (uc l) (coN nd (duF nd tm) (roF R bt) bt ch uc l r)).testBit (fun c => pc (roF R bt c &&& frN n nd (duF nd tm) (roF R bt) bt (csF n nd R bt cl) ch fr uc l r) 64) nd).1 with
      | none =>
        left
        rw [comeA_none q (by rw [updN_s, updN_s]; exact hq)]
        exact ⟨rfl, updN_s _ _ _⟩
      | some c' =>
        right
        have hb := (bestF_lt _ _ _).2 c' hq
        refine ⟨c', hb.1, rfl, ?_, fun _ _ => Nat.zero_le _, Nat.zero_le _⟩
        intro o
        rw [comeA_some q (by rw [updN_s, updN_s]; exact hq)]
        show (updN _ (l + 1) _ (l + 1)).testBit o = _
        rw [updN_s, updN_s, Nat.testBit_and]
    · rw [hca.2.2.2 j e, updN_n e, updN_n e, updN_n e]
      by_cases e2 : j = l
      · subst e2
        right
        rw [updN_s, updN_s, updN_s]
        refine ⟨c, hc, hcm, ?_, ?_, by have := hfs.1; omega⟩
        · intro o
          rw [bdf_tb, bdf_tb, hun o]
          cases (fr j).testBit o <;> cases (roF R bt c).testBit o <;> simp
        · intro o ho
          rw [bdf_tb, Nat.testBit_two_pow] at ho
          simp only [Bool.and_eq_true, Bool.not_eq_true', decide_eq_false_iff_not] at ho
          refine Classical.byContradiction (fun z => ?_)
          have : o < r := by omega
          rw [hlow o this] at ho
          cases ho.1
      · rw [updN_n e2, updN_n e2, updN_n e2]
        exact h6 hno j (by omega)
