-- the reference's search: its loop
def spI (no : Nat) : Int32 := if no = 50000 then nI 1 else nI 0
abbrev O12 := Int32 × Int32 × Int32 × Int32 × (Nat → Int32) × (Nat → Int32) × (Nat → Int32) × (Nat → Int32) × (Nat → Int32) × (Nat → Int32) × (Nat → Int32) × (Nat → Int64)
def outS (t : SS) (o : O12) : Prop := o.2.1 = nI t.1 ∧ o.2.2.1 = nI t.2.1 ∧ o.2.2.2.1 = spI t.1 ∧ o.2.2.2.2.2.2.2.2.2.2.2 = aL t.2.2.2.2.2.2.1
theorem relS_F {n nd R : Nat} {tm bt cl : Nat → Nat} {no : Nat} {ch fr un ic cn co ba cc cm nx : Nat → Nat} {l : Nat} (hR : R ≤ 60) (hsF : ∀ r, (fr l).testBit r = true → r < R) (h : relS n nd R tm bt cl no ch fr un (l + 1) ic cn co ba cc cm nx) : relF n nd R tm bt cl ba (ch l) (fr l) := by
  obtain ⟨h1, h2, h3, h4, h5, h6⟩ := h
  refine ⟨hsF, ?_⟩
  intro o ho
  rw [h5 l (by omega) o ho]
  have := h3 o (by omega)
  exact ⟨fun a => ⟨a.1, by have := a.2.1; omega⟩, fun a => ⟨a.1, by omega, fun q => by omega⟩⟩
theorem qy_64n {n nd R : Nat} {y4 : Int32} {w1 w2 w3 w4 : Nat → Int32} {K : Int32 → Int32 → Int32 → Int32 → (Nat → Int32) → (Nat → Int32) → (Nat → Int32) → (Nat → Int32) → (Nat → Int32) → (Nat → Int32) → (Nat → Int32) → (Nat → Int64) → Int32 → Int32 → Option O12} {vch vno vfo vsp x2 x3 x5 : Int32} {vcc vic vcm vnx vba vcn vco : Nat → Int32} {vw : Nat → Int64} (g : Nat) :
    f_X5_search_64 (nI n) (nI nd) (nI R) y4 w1 w2 w3 w4 K (g + 1) vch vno vfo vsp vcc vic vcm vnx vba vcn vco vw x2 x3 (lvI 0) x5
      = f_X5_search_109 (nI n) (nI nd) (nI R) y4 w1 w2 w3 w4 K vch vno vfo vsp vcc vic vcm vnx vba vcn vco vw x2 x3 := by
  simp only [f_X5_search_64, f_X5_search_95]
  rw [if_pos (by decide), if_pos (by decide)]
theorem relS_0 {n nd R : Nat} {tm bt cl : Nat → Nat} {no : Nat} {ch fr un ic cn co ba cc cm nx : Nat → Nat} (h : relS n nd R tm bt cl no ch fr un 1 ic cn co ba cc cm nx) : relS n nd R tm bt cl no ch fr un 0 ic cn co (mix (fun q => decide (ba q = 0 + 1)) ba (fun _ => 0) R) cc cm nx := by
  obtain ⟨h1, h2, h3, h4, h5, h6⟩ := h
  have hm2 : ∀ q, R ≤ q → mix (fun q => decide (ba q = 0 + 1)) ba (fun _ => 0) R q = ba q := fun q hq => if_neg (fun a => by omega)
  refine ⟨fun l e => by omega, fun j hj => by omega, ?_, ?_, fun j hj => by omega, fun _ j hj => by omega⟩
  · intro r hr
    by_cases e : r < R
    · unfold mix
      by_cases e2 : ba r = 1
      · rw [if_pos ⟨e, decide_eq_true e2⟩]; exact Nat.le_refl _
      · rw [if_neg (fun a => e2 (decide_eq_true_iff.1 a.2))]
        have := h3 r hr
        omega
    · rw [hm2 r (by omega), h4 r (by omega) hr]; omega
  · intro r r1 r2
    rw [hm2 r r1]; exact h4 r r1 r2
theorem qy_loop {n nd R : Nat} {tm bt cl : Nat → Nat} {most start : Nat} {y4 : Int32} {w4 : Nat → Int32} (hT : TB n nd R tm bt cl) (hmost : most < 2147483648) :
    ∀ m g no fo ch fr un uc ke lv ic cn co ba cc cm nx, m < g → boA (no, fo, ch, fr, un, uc, ke, lv) → muA (no, fo, ch, fr, un, uc, ke, lv) ≤ m →
      semA nd R (duF nd tm) (roF R bt) bt (csF n nd R bt cl) (no, fo, ch, fr, un, uc, ke, lv) → kepA nd R (duF nd tm) (roF R bt) bt (csF n nd R bt cl) (no, fo, ch, fr, un, uc, ke, lv) → cplA nd R (duF nd tm) (roF R bt) bt (csF n nd R bt cl) start (no, fo, ch, fr, un, uc, ke, lv) →
      relS n nd R tm bt cl no ch fr un lv ic cn co ba cc cm nx →
      ∃ o : O12, f_X5_search_31 (nI n) (nI nd) (nI R) y4 (aI tm) (aI bt) (aI cl) w4 g (lvI lv) (nI no) (nI fo) (spI no) (aI cc) (aI ic) (aV cm) (aI nx) (aV ba) (aI cn) (aI co) (aL ke) (nI most) (nI (decide (no < 50000 ∧ fo < most)).toNat) = some o
        ∧ outS (runA n nd (duF nd tm) (roF R bt) bt (csF n nd R bt cl) most m (no, fo, ch, fr, un, uc, ke, lv)) o := by
  have h60 := hT.2.2.2.1
  have hn := hT.2.1
  have hnd := hT.2.2.1
  have htab := tabF (n := n) (nd := nd) bt cl h60
  intro m
  induction m with
  | zero =>
    intro g no fo ch fr un uc ke lv ic cn co ba cc cm nx hg hb hm hs hk hcp hr
    obtain ⟨q, rfl, hq⟩ := qt_fuel hg
    have hm' : 2 * (50000 - no) + lv ≤ 0 := hm
    have hlv : lv = 0 := by omega
    subst hlv
    simp only [f_X5_search_31, f_X5_search_265]
    by_cases hx : nI (decide (no < 50000 ∧ fo < most)).toNat = 0
    · rw [if_pos hx]; exact ⟨_, rfl, rfl, rfl, rfl, rfl⟩
    · rw [if_neg hx, if_pos (by decide)]; exact ⟨_, rfl, rfl, rfl, rfl, rfl⟩
  | succ m ih =>
    intro g no fo ch fr un uc ke lv ic cn co ba cc cm nx hg hb hm hs hk hcp hr
    obtain ⟨q, rfl, hq⟩ := qt_fuel hg
    rw [runA]
    by_cases hh : hltA most (no, fo, ch, fr, un, uc, ke, lv)
    · rw [@if_pos _ (Classical.propDecidable _) hh]
      have hh' : lv = 0 ∨ 50000 ≤ no ∨ most ≤ fo := hh
      simp only [f_X5_search_31, f_X5_search_265]
      by_cases hx : nI (decide (no < 50000 ∧ fo < most)).toNat = 0
      · rw [if_pos hx]; exact ⟨_, rfl, rfl, rfl, rfl, rfl⟩
      · have hlv : lv = 0 := by
          rcases hh' with h | h | h
          · exact h
          · exact absurd (by rw [decide_eq_false (fun a => by omega)]; rfl) hx
          · exact absurd (by rw [decide_eq_false (fun a => by omega)]; rfl) hx
        subst hlv
        rw [if_neg hx, if_pos (by decide)]; exact ⟨_, rfl, rfl, rfl, rfl, rfl⟩
    · rw [@if_neg _ (Classical.propDecidable _) hh]
      have hbs := boA_stp (n := n) (nd := nd) (due := duF nd tm) (rows := roF R bt) (cols := bt) (cs := csF n nd R bt cl) hb hh
      have hss := stp_sem (n := n) htab hnd hb hs hk hcp hh
      have hh2 : ¬ lv = 0 ∧ no < 50000 ∧ fo < most := by
        refine ⟨fun c => hh (Or.inl c), ?_, ?_⟩
        · exact Nat.lt_of_not_le (fun c => hh (Or.inr (Or.inl c)))
        · exact Nat.lt_of_not_le (fun c => hh (Or.inr (Or.inr c)))
      obtain ⟨b1, b2, b3, b4⟩ := hb
      simp only at b1 b2 b3 b4
      have hlv : ∃ l, lv = l + 1 := ⟨lv - 1, by omega⟩
      obtain ⟨l, rfl⟩ := hlv
      have hsl : semL nd R (duF nd tm) (roF R bt) bt (csF n nd R bt cl) (ch l) (fr l) (un l) (uc l) l := hs l (by show l < l + 1; omega)
      have hrC := hr.1 l rfl
      have hrF := relS_F h60 (fun r hq => (hsl.2.2.2.1 r hq).1) hr
      have hX : ∀ o, (ch l).testBit o = true → o < R := fun o ho => (hsl.2.2.2.2.2.1 o ho).1
      have hba : ∀ j, j < 60 → ba j ≤ 61 := fun j hj => by have := hr.2.2.1 j hj; omega
      have hx3 : nI (decide (no < 50000 ∧ fo < most)).toNat = nI 1 := by rw [decide_eq_true ⟨hh2.2.1, hh2.2.2⟩]; rfl
      -- going back a level
      have hleave : un l = 0 → ∃ o : O12, f_X5_search_109 (nI n) (nI nd) (nI R) y4 (aI tm) (aI bt) (aI cl) w4 (f_X5_search_31 (nI n) (nI nd) (nI R) y4 (aI tm) (aI bt) (aI cl) w4 q) (nI l) (nI no) (nI fo) (spI no) (aI cc) (aI ic) (aV cm) (aI nx) (aV ba) (aI cn) (aI co) (aL ke) (nI most) (nI 1) = some o
          ∧ outS (runA n nd (duF nd tm) (roF R bt) bt (csF n nd R bt cl) most m (stpA n nd (duF nd tm) (roF R bt) bt (csF n nd R bt cl) (no, fo, ch, fr, un, uc, ke, l + 1))) o := by
        intro hz
        have hst : stpA n nd (duF nd tm) (roF R bt) bt (csF n nd R bt cl) (no, fo, ch, fr, un, uc, ke, l + 1) = (no, fo, ch, fr, un, uc, ke, l) := by
          unfold stpA
          simp only [Nat.add_sub_cancel]
          rw [if_pos (Or.inl hz)]
        rw [hst] at hbs hss ⊢
        cases l with
        | zero =>
          rw [qw_leave0 h60 hba]
          have a := ih q no fo ch fr un uc ke 0 ic cn co _ cc cm nx (by omega) hbs.1 (by omega) hss.1 hss.2.1 hss.2.2 (relS_0 hr)
          rw [hx3] at a
          exact a
        | succ l =>
          have hrl := relS_leave h60 hr
          have hcc := (hr.2.1 l (by omega)).1
          rw [qw_leave1 hn h60 hba (by omega) (by omega) (hT.b24 _) hrl.1]
          have a := ih q no fo ch fr un uc ke (l + 1) _ _ _ _ cc cm nx (by omega) hbs.1 (by omega) hss.1 hss.2.1 hss.2.2 hrl.2
          rw [hx3] at a
          exact a
      rw [hx3]
      have hstart : f_X5_search_31 (nI n) (nI nd) (nI R) y4 (aI tm) (aI bt) (aI cl) w4 (q + 1) (lvI (l + 1)) (nI no) (nI fo) (spI no) (aI cc) (aI ic) (aV cm) (aI nx) (aV ba) (aI cn) (aI co) (aL ke) (nI most) (nI 1)
          = f_X5_search_64 (nI n) (nI nd) (nI R) y4 (aI tm) (aI bt) (aI cl) w4 (f_X5_search_31 (nI n) (nI nd) (nI R) y4 (aI tm) (aI bt) (aI cl) w4 q) (999999 + 1) (nI l) (nI no) (nI fo) (spI no) (aI cc) (aI ic) (aV cm) (aI nx) (aV ba) (aI cn) (aI co) (aL ke) (nI most) (nI 1) (lvI (cm l)) (nI (nx l)) := by
        conv => lhs; unfold f_X5_search_31
        simp (disch := omega) only [qz_i0, qz_i1, qz_i2, qz_i3, qz_i4, qz_i5, qz_i6, qz_i7, qz_i8, qz_i9, qz_i24, qz_i27, qz_i31, qz_i60, qz_i61, qz_i100, qz_i101, qz_i50000, qz_i100000, ql_i0, ql_i1, ql_i63, ql_m1, qz_m1, qz_le, qz_lt, qz_eq, qz_add, qz_mul, qz_sub, qz_an, qz_ix, qz_and, qz_or, qz_shl, qz_shr, qz_andn, ql_eq, ql_and, ql_or, ql_shl, ql_shr, ql_andn, ql_of, qz_k31, qz_k63, qz_bit, qz_b0, qz_b1, ql_b0, ql_b1, lg_0, qz_gd, Nat.one_shiftLeft, aI_ap, aL_ap, upd_aI, upd_aL, aV_ap, upd_aV, upd_aVm, lvI]
        rw [if_neg (by decide), if_neg (by omega)]
      rw [hstart]
      rcases hr.2.2.2.2.2 hh2.2.1 l (by omega) with ⟨hc0, hu0⟩ | ⟨c, c1, c2, c3, c4, c5⟩
      · rw [hc0, qy_64n]
        exact hleave hu0
      · obtain ⟨r, r1, r2, r3, r4, r5⟩ := qw_scan (y4 := y4) (w4 := w4) (K := f_X5_search_31 (nI n) (nI nd) (nI R) y4 (aI tm) (aI bt) (aI cl) w4 q) (vch := nI l) (vno := nI no) (vfo := nI fo) (vsp := spI no) (x2 := nI most) (x3 := nI 1) (vcc := aI cc) (vcm := aV cm) (vnx := aI nx) (vw := aL ke) hT hX hrC hrF hba c1 (R - nx l) (nx l) (999999 + 1) (by omega) (by omega)
        have hUn : ∀ i, (un l).testBit i = (roF R bt c &&& fr l).testBit i := fun i => by rw [c3 i, Nat.testBit_and, Bool.and_comm]
        have hlow : ∀ i, i < r → (un l).testBit i = false := by
          intro i hi
          by_cases e : nx l ≤ i
          · rw [hUn i]; exact r3 i e hi
          · cases hq2 : (un l).testBit i
            · rfl
            · exact absurd (c4 i hq2) e
        rw [c2]
        show ∃ o : O12, f_X5_search_64 (nI n) (nI nd) (nI R) y4 (aI tm) (aI bt) (aI cl) w4 _ (999999 + 1) (nI l) (nI no) (nI fo) (spI no) (aI cc) (aI ic) (aV cm) (aI nx) (aV ba) (aI cn) (aI co) (aL ke) (nI most) (nI 1) (nI c) (nI (nx l)) = some o ∧ _
        rw [r5]
        unfold f_X5_search_95
        by_cases hrR : r = R
        · have hz : un l = 0 := by
            apply Nat.eq_of_testBit_eq
            intro i
            rw [Nat.zero_testBit]
            by_cases e : i < r
            · exact hlow i e
            · rw [hUn i, Nat.testBit_and, roF_tb, decide_eq_false (by omega), Bool.false_and, Bool.false_and]
          simp (disch := omega) only [qz_i0, qz_i1, qz_i2, qz_i3, qz_i4, qz_i5, qz_i6, qz_i7, qz_i8, qz_i9, qz_i24, qz_i27, qz_i31, qz_i60, qz_i61, qz_i100, qz_i101, qz_i50000, qz_i100000, ql_i0, ql_i1, ql_i63, ql_m1, qz_m1, qz_le, qz_lt, qz_eq, qz_add, qz_mul, qz_sub, qz_an, qz_ix, qz_and, qz_or, qz_shl, qz_shr, qz_andn, ql_eq, ql_and, ql_or, ql_shl, ql_shr, ql_andn, ql_of, qz_k31, qz_k63, qz_bit, qz_b0, qz_b1, ql_b0, ql_b1, lg_0, qz_gd, Nat.one_shiftLeft, aI_ap, aL_ap, upd_aI, upd_aL, aV_ap, upd_aV, upd_aVm]
          rw [if_neg (by omega), if_pos hrR]
          exact hleave hz
        · have hru : (un l).testBit r = true := by rw [hUn r]; exact r4 (by omega)
          have hl60 : l < 60 := by
            refine Classical.byContradiction (fun z => ?_)
            have a := full_none htab hsl (by omega) r
            rw [hru] at a
            cases a
          have hun0 : un l ≠ 0 := fun z => by rw [z, Nat.zero_testBit] at hru; cases hru
          have hlowb : lowb (un l) 60 0 = r := lowb_eq hru hlow 60 0 (by omega) (by omega)
          have hst : stpA n nd (duF nd tm) (roF R bt) bt (csF n nd R bt cl) (no, fo, ch, fr, un, uc, ke, l + 1) = ((comeA nd (roF R bt) (updN ch (l + 1) (chN ch l r)) (updN (updN fr l (bdf (fr l) (2 ^ r))) (l + 1) (frN n nd (duF nd tm) (roF R bt) bt (csF n nd R bt cl) ch fr uc l r)) (updN uc (l + 1) (bdf (uc l) (coN nd (duF nd tm) (roF R bt) bt ch uc l r))) no fo (updN un l (bdf (un l) (2 ^ r))) ke (l + 1)).1, (comeA nd (roF R bt) (updN ch (l + 1) (chN ch l r)) (updN (updN fr l (bdf (fr l) (2 ^ r))) (l + 1) (frN n nd (duF nd tm) (roF R bt) bt (csF n nd R bt cl) ch fr uc l r)) (updN uc (l + 1) (bdf (uc l) (coN nd (duF nd tm) (roF R bt) bt ch uc l r))) no fo (updN un l (bdf (un l) (2 ^ r))) ke (l + 1)).2.1, updN ch (l + 1) (chN ch l r), updN (updN fr l (bdf (fr l) (2 ^ r))) (l + 1) (frN n nd (duF nd tm) (roF R bt) bt (csF n nd R bt cl) ch fr uc l r), (comeA nd (roF R bt) (updN ch (l + 1) (chN ch l r)) (updN (updN fr l (bdf (fr l) (2 ^ r))) (l + 1) (frN n nd (duF nd tm) (roF R bt) bt (csF n nd R bt cl) ch fr uc l r)) (updN uc (l + 1) (bdf (uc l) (coN nd (duF nd tm) (roF R bt) bt ch uc l r))) no fo (updN un l (bdf (un l) (2 ^ r))) ke (l + 1)).2.2.1, updN uc (l + 1) (bdf (uc l) (coN nd (duF nd tm) (roF R bt) bt ch uc l r)), (comeA nd (roF R bt) (updN ch (l + 1) (chN ch l r)) (updN (updN fr l (bdf (fr l) (2 ^ r))) (l + 1) (frN n nd (duF nd tm) (roF R bt) bt (csF n nd R bt cl) ch fr uc l r)) (updN uc (l + 1) (bdf (uc l) (coN nd (duF nd tm) (roF R bt) bt ch uc l r))) no fo (updN un l (bdf (un l) (2 ^ r))) ke (l + 1)).2.2.2, l + 2) := by
            unfold stpA
            simp only [Nat.add_sub_cancel]
            rw [if_neg (fun z => z.elim hun0 (fun z => by omega)), hlowb]
          have hcome := relS_come (fo := fo) (uc := uc) (ke := ke) hT hr hsl hru hlow c1 c2 hh2.2.1 hl60 c3
          have hrelC := hcome.1 (l + 1) rfl
          have hD1 : (comeA nd (roF R bt) (updN ch (l + 1) (chN ch l r)) (updN (updN fr l (bdf (fr l) (2 ^ r))) (l + 1) (frN n nd (duF nd tm) (roF R bt) bt (csF n nd R bt cl) ch fr uc l r)) (updN uc (l + 1) (bdf (uc l) (coN nd (duF nd tm) (roF R bt) bt ch uc l r))) no fo (updN un l (bdf (un l) (2 ^ r))) ke (l + 1)).1 = no + 1 := by
            unfold comeA
            by_cases z : no + 1 < 50000
            · rw [if_pos z]; split <;> rfl
            · rw [if_neg z]
          have hch := sem_choose (n := n) (V := 0) htab hnd hsl hru (fun o ho => by rw [Nat.zero_testBit] at ho; cases ho)
          have hFrest : relF n nd R tm bt cl ba ((updN ch (l + 1) (chN ch l r)) (l + 1)) ((updN (updN fr l (bdf (fr l) (2 ^ r))) (l + 1) (frN n nd (duF nd tm) (roF R bt) bt (csF n nd R bt cl) ch fr uc l r)) (l + 1)) := by
            rw [updN_s, updN_s]
            exact ⟨fun o ho => (hch.2.2.2.1 o ho).1, fun o ho => frN_iff (nb := fun o => ba o = 0) htab hnd hsl hru hrF.2 o ho⟩
          have harr := qv_arrive (sp := spI no) (cm := cm) (nx := updN nx l (r + 1)) (ch := updN ch (l + 1) (chN ch l r)) (fr := updN (updN fr l (bdf (fr l) (2 ^ r))) (l + 1) (frN n nd (duF nd tm) (roF R bt) bt (csF n nd R bt cl) ch fr uc l r)) (uc := updN uc (l + 1) (bdf (uc l) (coN nd (duF nd tm) (roF R bt) bt ch uc l r))) (un := updN un l (bdf (un l) (2 ^ r))) (ke := ke) (no := no) (fo := fo) (l := l + 1) hT (by rw [updN_s, updN_s, updN_s]; exact hch) hrelC hFrest hba (by omega) hh2.2.1 b2 hmost
          have hsp : (if no + 1 = 50000 then nI 1 else spI no) = spI (no + 1) := by
            unfold spI
            by_cases z : no + 1 = 50000
            · rw [if_pos z, if_pos z]
            · rw [if_neg z, if_neg z, if_neg (by omega)]
          rw [hst] at hbs hss ⊢
          rw [hD1] at hbs hss ⊢
          have a := ih q (no + 1) _ _ _ _ _ _ (l + 2) _ _ _ ba _ _ _ (by omega) hbs.1 (by omega) hss.1 hss.2.1 hss.2.2 hcome
          obtain ⟨o, o1, o2⟩ := a
          refine ⟨o, ?_, o2⟩
          rw [← o1]
          simp (disch := omega) only [qz_i0, qz_i1, qz_i2, qz_i3, qz_i4, qz_i5, qz_i6, qz_i7, qz_i8, qz_i9, qz_i24, qz_i27, qz_i31, qz_i60, qz_i61, qz_i100, qz_i101, qz_i50000, qz_i100000, ql_i0, ql_i1, ql_i63, ql_m1, qz_m1, qz_le, qz_lt, qz_eq, qz_add, qz_mul, qz_sub, qz_an, qz_ix, qz_and, qz_or, qz_shl, qz_shr, qz_andn, ql_eq, ql_and, ql_or, ql_shl, ql_shr, ql_andn, ql_of, qz_k31, qz_k63, qz_bit, qz_b0, qz_b1, ql_b0, ql_b1, lg_0, qz_gd, Nat.one_shiftLeft, aI_ap, aL_ap, upd_aI, upd_aL, aV_ap, upd_aV, upd_aVm]
          rw [if_neg (by omega), if_neg hrR, qr_on hn (hT.b24 r) (by omega), Option.bind_some]
          show (f_X5_arrive (nI n) (nI nd) (nI R) (nI (l + 1)) (aI tm) (aI bt) (aI cl) _ (aV ba) _ _ (nI no) (nI fo) (spI no) (aV cm) (aI (updN nx l (r + 1))) (aL ke) (nI most)).bind _ = _
          rw [harr, Option.bind_some, hsp]
          rfl
/-- a search of the reference: its answers are those of the steps -/
noncomputable def srchA (n nd R : Nat) (tm bt cl w : Nat → Nat) (start most : Nat) : SS :=
  runA n nd (duF nd tm) (roF R bt) bt (csF n nd R bt cl) most 100000 (begA n nd R (duF nd tm) (roF R bt) (csF n nd R bt cl) (fun _ => 0) (fun _ => 0) (fun _ => 0) (fun _ => 0) w start)
theorem qy_search {n nd R T : Nat} {tm bt cl tk cc ic cm nx ba cn co w : Nat → Nat} {most : Nat} {vch vno vfo vsp : Int32} (hT : TB n nd R tm bt cl) (hk : tkOk n nd R tm bt cl tk T) (hmost : most < 2147483648) :
    ∃ o : O12, f_X5_search (nI n) (nI nd) (nI R) (nI T) (aI tm) (aI bt) (aI cl) (aI tk) vch vno vfo vsp (aI cc) (aI ic) (aV cm) (aI nx) (aV ba) (aI cn) (aI co) (aL w) (nI most) = some o ∧ outS (srchA n nd R tm bt cl w (TS tk T) most) o := by
  have h60 := hT.2.2.2.1
  have hn := hT.2.1
  have hnd := hT.2.2.1
  have htab := tabF (n := n) (nd := nd) bt cl h60
  obtain ⟨ic', ba', cn', co', e1, e2, e3⟩ := qv_begin ic ba cn co hT hk
  have hok := TS_ok h60 hk T (Nat.le_refl _)
  have hb := qs_beg (n := n) (nd := nd) (R := R) (due := duF nd tm) (rows := roF R bt) (cs := csF n nd R bt cl) (ch := fun _ => 0) (fr := fun _ => 0) (un := fun _ => 0) (uc := fun _ => 0) (ke := w) (start := TS tk T) (by omega) (roF_lt bt h60)
  have hs := beg_sem (n := n) (ch := fun _ => 0) (fr := fun _ => 0) (un := fun _ => 0) (uc := fun _ => 0) (ke := w) htab hnd hok.1 hok.2.1
  have hs0 := hs.1 0 (by show 0 < 1; omega)
  have hrF : relF n nd R tm bt cl ba' (updN (fun _ => 0) 0 (TS tk T) 0) (updN (fun _ => 0) 0 (fitA n nd R (duF nd tm) (roF R bt) (csF n nd R bt cl) (TS tk T)) 0) := by
    rw [updN_s, updN_s]
    refine ⟨fun o ho => ((fitA_tb htab hnd).1 ho).1, fun o ho => ?_⟩
    rw [fitA_tb htab hnd]
    exact ⟨fun a => ⟨a, e3 o (by omega)⟩, fun a => a.1⟩
  have hsem : semL nd R (duF nd tm) (roF R bt) bt (csF n nd R bt cl) (updN (fun _ => 0) 0 (TS tk T) 0) (updN (fun _ => 0) 0 (fitA n nd R (duF nd tm) (roF R bt) (csF n nd R bt cl) (TS tk T)) 0) 0 (updN (fun _ => 0) 0 (bs (unP (duF nd tm) (roF R bt) (2 ^ nd - 1) (TS tk T)) nd) 0) 0 :=
    ⟨hs0.1, hs0.2.1, hs0.2.2.1, hs0.2.2.2.1, (fun r hr => by rw [Nat.zero_testBit] at hr; cases hr), hs0.2.2.2.2.2⟩
  have harr := qv_arrive (sp := nI 0) (cm := cm) (nx := nx) (ch := updN (fun _ => 0) 0 (TS tk T)) (fr := updN (fun _ => 0) 0 (fitA n nd R (duF nd tm) (roF R bt) (csF n nd R bt cl) (TS tk T))) (uc := updN (fun _ => 0) 0 (bs (unP (duF nd tm) (roF R bt) (2 ^ nd - 1) (TS tk T)) nd)) (un := fun _ => 0) (ke := w) (no := 0) (fo := 0) (l := 0) hT hsem (by rw [updN_s]; exact e2) hrF (fun j hj => by rw [e3 j hj]; omega) (by omega) (by omega) (Nat.le_refl _) hmost
  have hD1 : (comeA nd (roF R bt) (updN (fun _ => 0) 0 (TS tk T)) (updN (fun _ => 0) 0 (fitA n nd R (duF nd tm) (roF R bt) (csF n nd R bt cl) (TS tk T))) (updN (fun _ => 0) 0 (bs (unP (duF nd tm) (roF R bt) (2 ^ nd - 1) (TS tk T)) nd)) 0 0 (fun _ => 0) w 0).1 = 0 + 1 := by
    unfold comeA
    rw [if_pos (by decide)]; split <;> rfl
  have hrel : relS n nd R tm bt cl (0 + 1) (updN (fun _ => 0) 0 (TS tk T)) (updN (fun _ => 0) 0 (fitA n nd R (duF nd tm) (roF R bt) (csF n nd R bt cl) (TS tk T))) (comeA nd (roF R bt) (updN (fun _ => 0) 0 (TS tk T)) (updN (fun _ => 0) 0 (fitA n nd R (duF nd tm) (roF R bt) (csF n nd R bt cl) (TS tk T))) (updN (fun _ => 0) 0 (bs (unP (duF nd tm) (roF R bt) (2 ^ nd - 1) (TS tk T)) nd)) 0 0 (fun _ => 0) w 0).2.2.1 1 ic' cn' co' ba' cc
      (if 0 + 1 = 50000 then cm else updN cm 0 (ob (bestF ((updN (fun _ => 0) 0 (bs (unP (duF nd tm) (roF R bt) (2 ^ nd - 1) (TS tk T)) nd)) 0).testBit (fun c => pc (roF R bt c &&& (updN (fun _ => 0) 0 (fitA n nd R (duF nd tm) (roF R bt) (csF n nd R bt cl) (TS tk T))) 0) 64) nd).1))
      (if 0 + 1 = 50000 then nx else updN nx 0 0) := by
    refine ⟨?_, fun j hj => by omega, fun r hr => by rw [e3 r hr]; omega, fun r _ hr => e3 r hr, ?_, ?_⟩
    · intro l e
      have : l = 0 := by omega
      subst this
      rw [updN_s]; exact e2
    · intro j hj r hr
      have : j = 0 := by omega
      subst this
      rw [updN_s, updN_s, fitA_tb htab hnd, e3 r (by omega)]
      exact ⟨fun a => ⟨a, by omega, fun q => by omega⟩, fun a => a.1⟩
    · intro _ j hj
      have : j = 0 := by omega
      subst this
      rw [if_neg (by decide), if_neg (by decide), updN_s, updN_s, updN_s, updN_s]
      cases hq : (bestF (bs (unP (duF nd tm) (roF R bt) (2 ^ nd - 1) (TS tk T)) nd).testBit (fun c => pc (roF R bt c &&& fitA n nd R (duF nd tm) (roF R bt) (csF n nd R bt cl) (TS tk T)) 64) nd).1 with
      | none =>
        left
        rw [comeA_none (by decide) (by rw [updN_s, updN_s]; exact hq)]
        exact ⟨rfl, by show updN (fun _ => 0) 0 0 0 = 0; rw [updN_s]⟩
      | some c =>
        right
        have hb := (bestF_lt _ _ _).2 c hq
        refine ⟨c, hb.1, rfl, ?_, fun _ _ => Nat.zero_le _, Nat.zero_le _⟩
        intro o
        rw [comeA_some (by decide) (by rw [updN_s, updN_s]; exact hq)]
        show (updN (fun _ => 0) 0 (updN (fun _ => 0) 0 (fitA n nd R (duF nd tm) (roF R bt) (csF n nd R bt cl) (TS tk T)) 0 &&& roF R bt c) 0).testBit o = _
        rw [updN_s, updN_s, Nat.testBit_and]
  unfold srchA
  unfold begA at hb hs ⊢
  simp only at hb hs ⊢
  rw [hD1] at hb hs ⊢
  obtain ⟨o, o1, o2⟩ := qy_loop (y4 := nI T) (w4 := aI tk) hT hmost 100000 1000000 (0 + 1) _ _ _ _ _ _ 1 ic' cn' co' ba' cc _ _ (by omega) hb.1 (Nat.le_trans (Nat.le_of_eq hb.2) (by decide)) hs.1 hs.2.1 hs.2.2 hrel
  refine ⟨o, ?_, o2⟩
  rw [← o1]
  unfold f_X5_search
  rw [e1, Option.bind_some]
  show (f_X5_arrive (nI n) (nI nd) (nI R) (nI 0) (aI tm) (aI bt) (aI cl) (aI ic') (aV ba') (aI cn') (aI co') (nI 0) (nI 0) (nI 0) (aV cm) (aI nx) (aL w) (nI most)).bind _ = _
  rw [harr, Option.bind_some]
  rfl
