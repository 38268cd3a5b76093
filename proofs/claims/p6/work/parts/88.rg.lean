-- ways, way, tell
def RLw (R no fo kp : Nat) (ws : Bool) (ke wy : Nat → Nat) : Prop := fo ≤ 50000 ∧ no ≤ 50000 ∧ kp = (if ws = true then min fo 100 else 0) ∧ ∀ i, i < kp → ke i = wy i ∧ ∀ r, (ke i).testBit r = true → r < R
theorem run_lv {n nd : Nat} {due rows cols cs : Nat → Nat} {most : Nat} (m : Nat) (s : SS) (h : s.1 = 50000 → s.2.2.2.2.2.2.2 ≠ 0) : (runA n nd due rows cols cs most m s).1 = 50000 → (runA n nd due rows cols cs most m s).2.2.2.2.2.2.2 ≠ 0 := by
  refine runA_inv (P := fun s => s.1 = 50000 → s.2.2.2.2.2.2.2 ≠ 0) (fun s hs hh => ?_) m s h
  obtain ⟨no, fo, ch, fr, un, uc, ke, lv⟩ := s
  have hno : no < 50000 := Nat.lt_of_not_le (fun c => hh (Or.inr (Or.inl c)))
  unfold stpA
  by_cases q : un (lv - 1) = 0 ∨ 60 ≤ lv - 1
  · simp only [if_pos q]
    intro e; omega
  · simp only [if_neg q]
    intro _; omega
theorem rg_ways {n nd R T no fo kp : Nat} {ws : Bool} {tm bt cl tk ke wy : Nat → Nat} {th vch vno vfo vsp : Int32} {u1 u2 u3 : Nat → Int64} {u4 : Nat → Int32} {v1 v2 v3 v4 v5 v6 v7 : Nat → Int32} (h : RLt n nd R T tm bt cl tk) (hw : RLw R no fo kp ws ke wy) (x1 : Int32) :
    ∃ (y : Int32) (no' fo' kp' : Nat) (ws' : Bool) (ke' wy' : Nat → Nat) (a1 a2 a3 : Nat → Int64) (a4 : Nat → Int32) (b1 b2 b3 b4 : Int32) (c1 c2 c3 c4 c5 c6 c7 : Nat → Int32),
      f_X4_ways (lN (TS tk T)) (nI n) (nI nd) (nI R) (aI (duF nd tm)) (aI bt) (aL (roF R bt)) (aL (csF n nd R bt cl)) (nI ws.toNat) (nI no) (nI fo) u1 u2 u3 u4 (aL ke) x1 = some (y, nI ws'.toNat, nI no', nI fo', a1, a2, a3, a4, aL ke') ∧
      f_X5_ways (nI n) (nI nd) (nI R) (nI T) (aI tm) (aI bt) (aI cl) (aI tk) th vch vno vfo vsp (nI kp) (nI no) v1 v2 v3 v4 v5 (aL wy) v6 v7 x1 = some (y, nI 0, b1, b2, b3, b4, nI kp', nI no', c1, c2, c3, c4, c5, aL wy', c6, c7) ∧
      RLw R no' fo' kp' ws' ke' wy' := by
  obtain ⟨hT, hz, hp, hk⟩ := h
  have hn := hT.2.1
  have hR := hT.2.2.2.1
  have hnd := hT.2.2.1
  have htab := tabF (n := n) (nd := nd) bt cl hR
  by_cases e1 : x1 < (1 : Int32)
  · refine ⟨-1, no, fo, kp, ws, ke, wy, u1, u2, u3, u4, vch, vno, vfo, vsp, v1, v2, v3, v4, v5, v6, v7, ?_, ?_, hw⟩
    · unfold f_X4_ways f_X4_ways_11; rw [if_pos e1]
    · unfold f_X5_ways f_X5_ways_16; rw [if_pos e1]; rfl
  · by_cases e2 : x1 ≤ (100000 : Int32)
    · have hx : ∃ k, k < 100001 ∧ x1 = nI k := by
        rcases pk_ix x1 (n := 100001) (by decide) with q | q | q
        · exact absurd (Int32.lt_trans q (by decide)) e1
        · exact absurd (Int32.lt_of_lt_of_le (show (100000 : Int32) < nI 100001 by decide) (Int32.le_trans q e2)) Int32.lt_irrefl
        · exact q
      obtain ⟨most, k1, k2⟩ := hx
      subst k2
      obtain ⟨cc, rfl⟩ := aI_all v1
      obtain ⟨ic, rfl⟩ := aI_all v2
      obtain ⟨cm, rfl⟩ := aV_all v3
      obtain ⟨nx, rfl⟩ := aI_all v4
      obtain ⟨ba, rfl⟩ := aV_all v5
      obtain ⟨cn, rfl⟩ := aI_all v6
      obtain ⟨co, rfl⟩ := aI_all v7
      obtain ⟨ch, rfl⟩ := aL_all u1
      obtain ⟨fr, rfl⟩ := aL_all u2
      obtain ⟨un, rfl⟩ := aL_all u3
      obtain ⟨uc, rfl⟩ := aI_all u4
      have hok := TS_ok hR hk T (Nat.le_refl _)
      obtain ⟨o, o1, o2, o3, o4, o5⟩ := qy_search (T := T) (tk := tk) (cc := cc) (ic := ic) (cm := cm) (nx := nx) (ba := ba) (cn := cn) (co := co) (w := wy) (most := most) (vch := vch) (vno := vno) (vfo := vfo) (vsp := vsp) hT hk (by omega)
      have hcls := qs_runAll (ch := ch) (fr := fr) (un := un) (uc := uc) (ke := ke) (start := TS tk T) (most := most) (vno := nI no) (vfo := nI fo) (cols := bt) hn hnd hR (du_lt hT) (roF_lt bt hR) (csF_lt (n := n) (nd := nd) bt cl hR) (by omega)
      have hag := run_ag (n := n) (nd := nd) (due := duF nd tm) (rows := roF R bt) (cols := bt) (cs := csF n nd R bt cl) (most := most) 100000 _ _ (beg_ag (n := n) (nd := nd) (R := R) (due := duF nd tm) (rows := roF R bt) (cs := csF n nd R bt cl) (ch := ch) (fr := fr) (un := un) (uc := uc) (ke := ke) (ch' := fun _ => 0) (fr' := fun _ => 0) (un' := fun _ => 0) (uc' := fun _ => 0) (ke' := wy) (start := TS tk T))
      have hsem := run_sem (n := n) (nd := nd) (R := R) (due := duF nd tm) (rows := roF R bt) (cols := bt) (cs := csF n nd R bt cl) (ch := ch) (fr := fr) (un := un) (uc := uc) (ke := ke) (start := TS tk T) (most := most) htab hnd (by omega) (roF_lt bt hR) hok.1 hok.2.1
      have hlv := run_lv (n := n) (nd := nd) (due := duF nd tm) (rows := roF R bt) (cols := bt) (cs := csF n nd R bt cl) (most := most) 100000 (begA n nd R (duF nd tm) (roF R bt) (csF n nd R bt cl) ch fr un uc ke (TS tk T)) (fun _ => by show (1 : Nat) ≠ 0; decide)
      have hS : srchA n nd R tm bt cl wy (TS tk T) most = runA n nd (duF nd tm) (roF R bt) bt (csF n nd R bt cl) most 100000 (begA n nd R (duF nd tm) (roF R bt) (csF n nd R bt cl) (fun _ => 0) (fun _ => 0) (fun _ => 0) (fun _ => 0) wy (TS tk T)) := rfl
      rw [← hS] at hag
      generalize srchA n nd R tm bt cl wy (TS tk T) most = t at hag o2 o3 o4 o5
      generalize runA n nd (duF nd tm) (roF R bt) bt (csF n nd R bt cl) most 100000 (begA n nd R (duF nd tm) (roF R bt) (csF n nd R bt cl) ch fr un uc ke (TS tk T)) = s at hag hsem hlv hcls
      obtain ⟨g1, g2, g3, g4, g5⟩ := hag
      have hb1 : s.1 ≤ 50000 := hsem.2.1.1
      have hb2 : s.2.1 ≤ s.1 := hsem.2.1.2.1
      have hret : (if spI t.1 = 0 then nI t.2.1 else (-2 : Int32)) = retA s := by
        unfold retA spI
        rw [← g1, ← g2]
        by_cases q : s.1 = 50000
        · rw [if_pos q, if_neg (by decide), if_pos ⟨hlv q, by omega⟩]
        · rw [if_neg q, if_pos (by decide), if_neg (fun z => by omega)]
      refine ⟨retA s, s.1, s.2.1, min s.2.1 100, true, s.2.2.2.2.2.2.1, t.2.2.2.2.2.2.1, aL s.2.2.1, aL s.2.2.2.1, aL s.2.2.2.2.1, aI s.2.2.2.2.2.1, o.1, o.2.1, o.2.2.1, o.2.2.2.1, o.2.2.2.2.1, o.2.2.2.2.2.1, o.2.2.2.2.2.2.1, o.2.2.2.2.2.2.2.1, o.2.2.2.2.2.2.2.2.1, o.2.2.2.2.2.2.2.2.2.1, o.2.2.2.2.2.2.2.2.2.2.1, ?_, ?_, ?_⟩
      · unfold f_X4_ways
        rw [if_neg e1, if_pos e2, hcls, Option.bind_some]
        rfl
      · unfold f_X5_ways f_X5_ways_54 f_X5_ways_73
        rw [if_neg e1, if_pos e2, o1, Option.bind_some, ← hret]
        rw [o2, o3, o4, o5, ← g1, ← g2]
        by_cases q : (100 : Int32) ≤ nI s.2.1
        · have q' : 100 ≤ s.2.1 := by rw [qz_i100, qz_le (by omega) (by omega)] at q; exact q
          rw [if_pos q, Nat.min_eq_right q']
          by_cases q2 : spI s.1 = 0
          · rw [if_pos q2, if_pos q2]; rfl
          · rw [if_neg q2, if_neg q2]; rfl
        · have q' : ¬ 100 ≤ s.2.1 := by rw [qz_i100, qz_le (by omega) (by omega)] at q; exact q
          rw [if_neg q, Nat.min_eq_left (by omega)]
          by_cases q2 : spI s.1 = 0
          · rw [if_pos q2, if_pos q2]; rfl
          · rw [if_neg q2, if_neg q2]; rfl
      · refine ⟨by omega, hb1, by rw [if_pos rfl], fun i hi => ?_⟩
        refine ⟨g5 i (by omega) (by omega), fun r hr => ?_⟩
        exact ((hsem.2.2.2.1 i (by omega) (by omega)).1.1 r hr).1
    · refine ⟨-1, no, fo, kp, ws, ke, wy, u1, u2, u3, u4, vch, vno, vfo, vsp, v1, v2, v3, v4, v5, v6, v7, ?_, ?_, hw⟩
      · unfold f_X4_ways f_X4_ways_11; rw [if_neg e1, if_neg e2]
      · unfold f_X5_ways f_X5_ways_16; rw [if_neg e1, if_neg e2]; rfl
def memZ (S : Nat) (x2 : Int32) : Nat → Nat → Nat → Int32
  | 0, _, _ => -1
  | m + 1, k, sn => if S.testBit k then (if nI sn = x2 then nI k else memZ S x2 m (k + 1) (sn + 1)) else memZ S x2 m (k + 1) sn
theorem memZ_none {S : Nat} {x2 : Int32} : ∀ m k sn, (∀ i, k ≤ i → S.testBit i = false) → memZ S x2 m k sn = -1
  | 0, _, _, _ => rfl
  | m + 1, k, sn, h => by
    rw [memZ, if_neg (by rw [h k (Nat.le_refl _)]; decide)]
    exact memZ_none m (k + 1) sn (fun i hi => h i (by omega))
theorem memZ_cut {S d : Nat} {x2 : Int32} : ∀ m k sn, (∀ i, k + m ≤ i → S.testBit i = false) → memZ S x2 (m + d) k sn = memZ S x2 m k sn
  | 0, k, sn, h => by rw [Nat.zero_add, memZ]; exact memZ_none d k sn (fun i hi => h i (by omega))
  | m + 1, k, sn, h => by
    rw [show m + 1 + d = (m + d) + 1 by omega, memZ, memZ, memZ_cut m (k + 1) (sn + 1) (fun i hi => h i (by omega)), memZ_cut m (k + 1) sn (fun i hi => h i (by omega))]
theorem rg_member {S : Nat} {x2 : Int32} (hS : S < 2 ^ 60) : f_X4_memberAt (lN S) x2 = some (memZ S x2 60 0 0, ()) := by
  have key : ∀ m k g sn, k + m = 60 → m < g → f_X4_memberAt_5 g (lN S) x2 (nI sn) (nI k) = some (memZ S x2 m k sn, ()) := by
    intro m
    induction m with
    | zero =>
      intro k g sn hk hg
      obtain ⟨p, rfl, hp⟩ := qt_fuel hg
      have e : k = 60 := by omega
      subst e
      simp only [f_X4_memberAt_5]
      rw [qz_i60, if_pos (Int32.le_refl _)]
      rfl
    | succ m ih =>
      intro k g sn hk hg
      obtain ⟨p, rfl, hp⟩ := qt_fuel hg
      simp only [f_X4_memberAt_5, f_X4_memberAt_34]
      simp (disch := omega) only [qz_i0, qz_i1, qz_i2, qz_i3, qz_i4, qz_i5, qz_i6, qz_i7, qz_i8, qz_i9, qz_i24, qz_i27, qz_i31, qz_i60, qz_i61, qz_i100, qz_i101, qz_i50000, qz_i100000, ql_i0, ql_i1, ql_i63, ql_m1, qz_m1, qz_le, qz_lt, qz_add, qz_mul, qz_sub, qz_an, qz_ix, qz_and, qz_or, qz_shl, qz_shr, qz_andn, ql_eq, ql_and, ql_or, ql_shl, ql_shr, ql_andn, ql_of, qz_k31, qz_k63, qz_bit, qz_b0, qz_b1, ql_b0, ql_b1, lg_0, qz_gd, Nat.one_shiftLeft, aI_ap, aL_ap, upd_aI, upd_aL, aV_ap, upd_aV, upd_aVm]
      have hnk : ¬ 60 ≤ k := by omega
      rw [if_neg hnk, memZ]
      cases h : S.testBit k
      · rw [if_pos rfl, if_neg (by decide)]
        exact ih (k + 1) p sn (by omega) (by omega)
      · rw [if_neg (by decide), if_pos rfl]
        by_cases e : nI sn = x2
        · rw [if_pos e, if_pos e]
        · rw [if_neg e, if_neg e]
          exact ih (k + 1) p (sn + 1) (by omega) (by omega)
  exact key 60 0 1000000 0 (by omega) (by omega)
theorem rg_way {R no fo kp : Nat} {ws : Bool} {ke wy : Nat → Nat} {th : Int32} (hR : R ≤ 60) (h : RLw R no fo kp ws ke wy) (x1 x2 : Int32) :
    ∃ y, f_X4_way (nI ws.toNat) (nI fo) (aL ke) x1 x2 = some (y, ()) ∧ f_X5_way (nI R) (nI kp) (aL wy) th x1 x2 = some (y, nI 0) := by
  obtain ⟨h1, h2, h3, h4⟩ := h
  have hkp : kp ≤ 100 := by rw [h3]; split <;> omega
  have hkc : f_X1_keptCount (nI fo) = some (nI (min fo 100), ()) := by
    unfold f_X1_keptCount
    by_cases q : 100 < fo
    · rw [if_pos (show (100 : Int32) < nI fo by rw [qz_i100, qz_lt (by omega) (by omega)]; exact q), Nat.min_eq_right (by omega)]; rfl
    · rw [if_neg (show ¬ (100 : Int32) < nI fo by rw [qz_i100, qz_lt (by omega) (by omega)]; exact q), Nat.min_eq_left (by omega)]
  rcases pk_ix x1 (n := kp) (by omega) with q | q | ⟨k, k1, k2⟩
  · refine ⟨-1, ?_, ?_⟩
    · unfold f_X4_way f_X4_way_22
      by_cases e : nI ws.toNat = 0
      · rw [if_pos e]
      · rw [if_neg e, if_pos q]
    · unfold f_X5_way f_X5_way_17
      rw [if_pos q]; rfl
  · refine ⟨-1, ?_, ?_⟩
    · unfold f_X4_way f_X4_way_22
      by_cases e : nI ws.toNat = 0
      · rw [if_pos e]
      · rw [if_neg e]
        by_cases e2 : x1 < 0
        · rw [if_pos e2]
        · rw [if_neg e2, hkc, Option.bind_some]
          have hws : ws = true := by
            cases ws
            · exact absurd rfl e
            · rfl
          rw [h3, if_pos hws] at q
          rw [if_neg (fun z => absurd (Int32.lt_of_lt_of_le z q) Int32.lt_irrefl)]
    · unfold f_X5_way f_X5_way_17
      by_cases e2 : x1 < 0
      · rw [if_pos e2]; rfl
      · rw [if_neg e2, if_neg (fun z => absurd (Int32.lt_of_lt_of_le z q) Int32.lt_irrefl)]; rfl
  · subst k2
    have hws : ws = true := by
      cases hq : ws
      · rw [hq] at h3; have : kp = 0 := by rw [h3]; rfl
        omega
      · rfl
    have hmin : kp = min fo 100 := by rw [h3, if_pos hws]
    obtain ⟨a1, a2⟩ := h4 k k1
    have hlt : ke k < 2 ^ 60 := Nat.lt_pow_two_of_testBit _ (fun i hi => by
      cases z : (ke k).testBit i
      · rfl
      · have := a2 i z; omega)
    refine ⟨memZ (ke k) x2 60 0 0, ?_, ?_⟩
    · unfold f_X4_way f_X4_way_22
      have g1 : ¬ nI ws.toNat = 0 := by rw [hws]; decide
      have g2 : ¬ nI k < 0 := by rw [qz_i0, qz_lt (by omega) (by omega)]; omega
      rw [if_neg g1, if_neg g2, hkc, Option.bind_some]
      dsimp only
      rw [if_pos (show nI k < nI (min fo 100) by rw [qz_lt (by omega) (by omega)]; omega), if_neg (by rw [qz_i0, qz_lt (by omega) (by omega), qz_ix (by omega)]; omega), qz_ix (by omega), aL_ap, rg_member hlt, Option.bind_some]
    · have hcut := memZ_cut (S := ke k) (d := 60 - R) (x2 := x2) R 0 0 (fun i hi => by
        cases z : (ke k).testBit i
        · rfl
        · have := a2 i z; omega)
      rw [show R + (60 - R) = 60 by omega] at hcut
      rw [hcut]
      have key : ∀ m j g sn, j + m = R → m < g → f_X5_way_24 (nI R) (nI kp) (aL wy) g (nI 0) (nI k) x2 (nI sn) (nI j) = some (memZ (ke k) x2 m j sn, nI 0) := by
        intro m
        induction m with
        | zero =>
          intro j g sn hk hg
          obtain ⟨p, rfl, hp⟩ := qt_fuel hg
          have e : j = R := by omega
          subst e
          simp only [f_X5_way_24]
          rw [if_pos (Int32.le_refl _)]
          rfl
        | succ m ih =>
          intro j g sn hk hg
          obtain ⟨p, rfl, hp⟩ := qt_fuel hg
          simp only [f_X5_way_24, f_X5_way_63]
          simp (disch := omega) only [qz_i0, qz_i1, qz_i2, qz_i3, qz_i4, qz_i5, qz_i6, qz_i7, qz_i8, qz_i9, qz_i24, qz_i27, qz_i31, qz_i60, qz_i61, qz_i100, qz_i101, qz_i50000, qz_i100000, ql_i0, ql_i1, ql_i63, ql_m1, qz_m1, qz_le, qz_lt, qz_add, qz_mul, qz_sub, qz_an, qz_ix, qz_and, qz_or, qz_shl, qz_shr, qz_andn, ql_eq, ql_and, ql_or, ql_shl, ql_shr, ql_andn, ql_of, qz_k31, qz_k63, qz_bit, qz_b0, qz_b1, ql_b0, ql_b1, lg_0, qz_gd, Nat.one_shiftLeft, aI_ap, aL_ap, upd_aI, upd_aL, aV_ap, upd_aV, upd_aVm, ← a1]
          have hnk : ¬ R ≤ j := by omega
          rw [if_neg hnk, memZ]
          cases z : (ke k).testBit j
          · rw [if_pos rfl, if_neg (by decide)]
            exact ih (j + 1) p sn (by omega) (by omega)
          · rw [if_neg (by decide), if_pos rfl]
            by_cases e : nI sn = x2
            · rw [if_pos e, if_pos e]
            · rw [if_neg e, if_neg e]
              exact ih (j + 1) p (sn + 1) (by omega) (by omega)
      unfold f_X5_way
      have g2 : ¬ nI k < 0 := by rw [qz_i0, qz_lt (by omega) (by omega)]; omega
      rw [if_neg g2, if_pos (show nI k < nI kp by rw [qz_lt (by omega) (by omega)]; exact k1)]
      exact key R 0 1000000 0 (by omega) (by omega)
theorem i32_sub {a b c : Int32} : a = b - c ↔ a + c = b := by
  constructor
  · intro h; rw [h, Int32.sub_add_cancel]
  · intro h; rw [← h, Int32.add_sub_cancel]
theorem rg_tell {n nd R T : Nat} {tm bt cl tk : Nat → Nat} {th : Int32} (h : RLt n nd R T tm bt cl tk) (x1 x2 : Int32) :
    (f_X4_tell (nI R) (aI bt) x1 x2 = some (.inr (RJx00060, ())) ∧ f_X5_tell (nI n) (nI R) (aI bt) th x1 x2 = some (nI 0, nI 1)) ∨
    ∃ y, f_X4_tell (nI R) (aI bt) x1 x2 = some (.inl (y, ())) ∧ f_X5_tell (nI n) (nI R) (aI bt) th x1 x2 = some (y, nI 0) := by
  obtain ⟨hT, hz, hp, hk⟩ := h
  have hn := hT.2.1
  have hR := hT.2.2.2.1
  rcases rc_row (n := R) (x := x1) (by omega) with ⟨r, r1, r2, r3, r4⟩ | ⟨r3, r4⟩
  · subst r2
    right
    have hb := hT.b24 r
    have hb60 : bt r < 2 ^ 60 := Nat.lt_trans hb (by decide)
    unfold f_X4_tell f_X4_tell_34 f_X5_tell f_X5_tell_15
    rw [r3, r4, Option.bind_some, Option.bind_some]
    dsimp only [gx]
    rw [if_neg (show ¬ nI 1 = 0 by decide), show f_X5_throwsIf th (1 : Int32) (0 : Int32) = some (nI 0, nI 0) from qr_throws0, Option.bind_some]
    dsimp only
    have hgd : ¬ (nI r < 0 ∨ 60 ≤ r) := by rw [qz_i0, qz_lt (by omega) (by omega)]; omega
    rw [if_pos (show nI 0 = 0 from rfl), qz_ix (k := r) (by omega), if_neg hgd, aI_ap]
    by_cases e : x2 = 0
    · rw [if_pos e, if_pos e, if_neg hgd, qp_I _ (by omega), Option.bind_some, qr_countOf (by omega), Option.bind_some, pc_32 hb]
      exact ⟨_, rfl, rfl⟩
    · rw [if_neg e, if_neg e, ql_of (by omega), rg_member hb60, Option.bind_some]
      refine ⟨_, rfl, ?_⟩
      have hcut := memZ_cut (S := bt r) (d := 60 - n) (x2 := x2 - 1) n 0 0 (fun i hi => tb_hi (hT.2.2.2.2.1 r) (by omega))
      rw [show n + (60 - n) = 60 by omega] at hcut
      dsimp only
      rw [hcut]
      have key : ∀ m j g sn, j + m = n → m < g → f_X5_tell_42 (nI n) (nI R) (aI bt) g (nI 0) (nI r) x2 (nI sn) (nI j) = some (memZ (bt r) (x2 - 1) m j sn, nI 0) := by
        intro m
        induction m with
        | zero =>
          intro j g sn hk hg
          obtain ⟨p, rfl, hp2⟩ := qt_fuel hg
          have e : j = n := by omega
          subst e
          simp only [f_X5_tell_42]
          rw [if_pos (Int32.le_refl _)]
          rfl
        | succ m ih =>
          intro j g sn hk hg
          obtain ⟨p, rfl, hp2⟩ := qt_fuel hg
          have hnk : ¬ nI n ≤ nI j := by rw [qz_le (by omega) (by omega)]; omega
          simp only [f_X5_tell_42, f_X5_tell_75]
          rw [if_neg hnk, qr_has hb (by omega) (by omega), Option.bind_some, memZ]
          have hj1 : nI j + 1 = nI (j + 1) := qz_add j 1
          have hs1 : nI sn + 1 = nI (sn + 1) := qz_add sn 1
          cases z : (bt r).testBit j
          · rw [if_pos (show nI (Bool.toNat false) = 0 from rfl), if_neg (by decide), hj1]
            exact ih (j + 1) p sn (by omega) (by omega)
          · rw [if_neg (show ¬ nI (Bool.toNat true) = 0 by decide), if_pos rfl, hj1, hs1]
            by_cases e : nI sn = x2 - 1
            · have e' : nI (sn + 1) = x2 := by rw [← hs1]; exact i32_sub.1 e
              rw [if_pos e, if_pos e']
            · have e' : ¬ nI (sn + 1) = x2 := fun q => e (i32_sub.2 (by rw [hs1]; exact q))
              rw [if_neg e, if_neg e']
              exact ih (j + 1) p (sn + 1) (by omega) (by omega)
      exact key n 0 1000000 0 (by omega) (by omega)
  · left
    unfold f_X4_tell f_X5_tell f_X5_tell_15
    rw [r3, r4, Option.bind_some, Option.bind_some]
    dsimp only [gx]
    rw [if_pos (show nI 0 = 0 from rfl), show f_X5_throwsIf th (1 : Int32) (1 : Int32) = some (nI 1, nI 1) from qr_throws1, Option.bind_some]
    dsimp only
    rw [if_neg (show ¬ nI 1 = 0 by decide)]
    exact ⟨rfl, rfl⟩
