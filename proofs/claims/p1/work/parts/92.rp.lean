-- p1: classes() on a new object (no row, no turn) answers alike
def ansS (no fo : Nat) : Int32 := if no = 50000 then -2 else if fo ≤ 100 then nI fo else -2
theorem rp_count {vi vo : Nat → Int32} {vw : Nat → Int64} {w : Nat} (hw : w ≤ 100) : ∃ vo', f_X3_countClasses (nI 0) (nI 0) vi vw vo (nI w) = some (nI w, vo') := by
  have k29 : ∀ f vo, 0 < f → f_X3_countClasses_29 (nI 0) (nI 0) vi vw f vo (nI w) (nI w) (nI 0) = some (nI w, vo) := by
    intro f vo hf
    obtain ⟨p, rfl, hp⟩ := qt_fuel hf
    simp only [f_X3_countClasses_29]
    rw [if_pos (Int32.le_refl _)]
  have k5 : ∀ m k f vo, k + m = w → m < f → ∃ vo', f_X3_countClasses_5 (nI 0) (nI 0) vi vw f vo (nI w) (nI w) (nI k) = some (nI w, vo') := by
    intro m
    induction m with
    | zero =>
      intro k f vo hk hf
      obtain ⟨p, rfl, hp⟩ := qt_fuel hf
      have e : k = w := by omega
      subst e
      simp only [f_X3_countClasses_5]
      rw [if_pos (Int32.le_refl _), qz_i0, k29 1000000 _ (by omega)]
      exact ⟨_, rfl⟩
    | succ m ih =>
      intro k f vo hk hf
      obtain ⟨p, rfl, hp⟩ := qt_fuel hf
      simp only [f_X3_countClasses_5]
      simp (disch := omega) only [qz_i0, qz_i1, qz_i2, qz_i3, qz_i4, qz_i5, qz_i6, qz_i7, qz_i8, qz_i9, qz_i24, qz_i27, qz_i31, qz_i60, qz_i61, qz_i100, qz_i101, qz_i50000, qz_i100000, ql_i0, ql_i1, ql_i63, ql_m1, qz_m1, qz_le, qz_lt, qz_eq, qz_add, qz_mul, qz_sub, qz_an, qz_ix, qz_and, qz_or, qz_shl, qz_shr, qz_andn, ql_eq, ql_and, ql_or, ql_shl, ql_shr, ql_andn, ql_of, qz_k31, qz_k63, qz_bit, qz_b0, qz_b1, ql_b0, ql_b1, lg_0, qz_gd, Nat.one_shiftLeft, aI_ap, aL_ap, upd_aI, upd_aL, aV_ap, upd_aV, upd_aVm]
      rw [if_neg (by omega)]
      exact ih (k + 1) p _ (by omega) (by omega)
  exact k5 w 0 1000000 vo (by omega) (by omega)
theorem rp_alike {n : Nat} {vb vc : Nat → Int32} : ∃ o, f_X2_hasAlikeRows (nI n) (nI 0) vb vc = some o ∧ o.1 = 0 := by
  have k2 : ∀ f, 0 < f → f_X2_hasAlikeRows_2 (nI n) (nI 0) vb vc f (nI 0) = some (0, ()) := by
    intro f hf
    obtain ⟨p, rfl, hp⟩ := qt_fuel hf
    simp only [f_X2_hasAlikeRows_2]
    rw [if_pos (Int32.le_refl _)]
  exact ⟨_, k2 1000000 (by omega), rfl⟩
theorem rp_keep {n : Nat} {vd vb vc vt vi : Nat → Int32} : ∃ o, f_X3_keepTable (nI 0) (nI n) (nI 0) vd vb vc vt vi = some o ∧ o.1 = 1 := by
  have k2 : ∀ f, 0 < f → f_X3_keepTable_2 (nI 0) (nI n) (nI 0) vd vb vc vt f vi (nI 0) = some (1, vi) := by
    intro f hf
    obtain ⟨p, rfl, hp⟩ := qt_fuel hf
    simp only [f_X3_keepTable_2]
    rw [if_pos (Int32.le_refl _)]
  exact ⟨_, k2 1000000 (by omega), rfl⟩
theorem rp_turns {n nd : Nat} {vt vb vc vg v : Nat → Int32} : ∃ o, f_X5_turnsRows (nI n) (nI nd) (nI 0) (nI 0) vt vb vc vg v = some o ∧ o.2 = v ∧ o.1 = 1 := by
  have k43 : ∀ f, 0 < f → f_X5_turnsRows_43 (nI n) (nI nd) (nI 0) (nI 0) vt vb vc vg f v (nI 0) = some (1, v) := by
    intro f hf
    obtain ⟨p, rfl, hp⟩ := qt_fuel hf
    simp only [f_X5_turnsRows_43]
    rw [if_pos (Int32.le_refl _)]
  have k2 : ∀ f, 0 < f → f_X5_turnsRows_2 (nI n) (nI nd) (nI 0) (nI 0) vt vb vc vg f v (nI 0) = some (1, v) := by
    intro f hf
    obtain ⟨p, rfl, hp⟩ := qt_fuel hf
    simp only [f_X5_turnsRows_2]
    rw [if_pos (Int32.le_refl _)]
    exact k43 1000000 (by omega)
  exact ⟨_, k2 1000000 (by omega), rfl, rfl⟩
theorem rp_284 {n nd R K fo : Nat} {tm bt cl go ke rg : Nat → Nat} {vtk : Nat → Int32} {vth vta vch vno vsp : Int32} {v1 v2 v3 v4 v5 v6 v7 : Nat → Int32} {mk : Nat → Nat} (hfo : fo ≤ 100) (hmk : ∀ i, i < fo → mk i = i) : ∀ m k f, k + m = fo → m < f → ∃ o : O17, f_X5_classes_284 (nI n) (nI nd) (nI R) (nI K) (aI tm) (aI bt) (aI cl) vtk (aI go) f vth vta vch vno (nI fo) vsp v1 v2 v3 v4 v5 (aL ke) (aI rg) (aI mk) v6 v7 (nI k) (nI k) = some o ∧ po17 vth vta o ∧ o.1 = nI fo := by
  intro m
  induction m with
  | zero =>
    intro k f hk hf
    obtain ⟨p, rfl, hp⟩ := qt_fuel hf
    have e : k = fo := by omega
    subst e
    simp only [f_X5_classes_284]
    rw [if_pos (Int32.le_refl _)]
    exact ⟨_, rfl, ⟨rfl, rfl⟩, rfl⟩
  | succ m ih =>
    intro k f hk hf
    obtain ⟨p, rfl, hp⟩ := qt_fuel hf
    have hmkk := hmk k (by omega)
    simp only [f_X5_classes_284, f_X5_classes_311]
    simp (disch := omega) only [qz_i0, qz_i1, qz_i2, qz_i3, qz_i4, qz_i5, qz_i6, qz_i7, qz_i8, qz_i9, qz_i24, qz_i27, qz_i31, qz_i60, qz_i61, qz_i100, qz_i101, qz_i50000, qz_i100000, ql_i0, ql_i1, ql_i63, ql_m1, qz_m1, qz_le, qz_lt, qz_add, qz_mul, qz_sub, qz_an, qz_ix, qz_and, qz_or, qz_shl, qz_shr, qz_andn, ql_eq, ql_and, ql_or, ql_shl, ql_shr, ql_andn, ql_of, qz_k31, qz_k63, qz_bit, qz_b0, qz_b1, ql_b0, ql_b1, lg_0, qz_gd, Nat.one_shiftLeft, aI_ap, aL_ap, upd_aI, upd_aL, aV_ap, upd_aV, upd_aVm]
    rw [if_neg (by omega), if_pos (show nI (mk k) = nI k by rw [hmkk])]
    exact ih (k + 1) p (by omega) (by omega)
theorem rp_102 {n nd R fo : Nat} {tm bt cl go ke rg mk : Nat → Nat} {vtk : Nat → Int32} {vth vta vch vno vsp : Int32} {v1 v2 v3 v4 v5 v6 v7 : Nat → Int32} {K83 : Int32 → Int32 → Int32 → Int32 → Int32 → Int32 → (Nat → Int32) → (Nat → Int32) → (Nat → Int32) → (Nat → Int32) → (Nat → Int32) → (Nat → Int64) → (Nat → Int32) → (Nat → Int32) → (Nat → Int32) → (Nat → Int32) → Int32 → Option O17} {K91 : Int32 → Int32 → Int32 → Int32 → Int32 → Int32 → (Nat → Int32) → (Nat → Int32) → (Nat → Int32) → (Nat → Int32) → (Nat → Int32) → (Nat → Int64) → (Nat → Int32) → (Nat → Int32) → (Nat → Int32) → (Nat → Int32) → Int32 → Int32 → Option O17} {x k : Nat} : ∀ f, 0 < f →
    f_X5_classes_102 (nI n) (nI nd) (nI R) (nI 0) (aI tm) (aI bt) (aI cl) vtk (aI go) K83 K91 f vth vta vch vno (nI fo) vsp v1 v2 v3 v4 v5 (aL ke) (aI rg) (aI mk) v6 v7 (nI x) (nI k) (nI 0) = K91 vth vta vch vno (nI fo) vsp v1 v2 v3 v4 v5 (aL ke) (aI rg) (aI mk) v6 v7 (nI x) (nI (k + 1)) := by
  intro f hf
  obtain ⟨p, rfl, hp⟩ := qt_fuel hf
  simp only [f_X5_classes_102]
  rw [if_pos (Int32.le_refl _), qz_i1, qz_add]
theorem rp_91 {n nd R fo : Nat} {tm bt cl go ke rg mk : Nat → Nat} {vtk : Nat → Int32} {vth vta vch vno vsp : Int32} {v1 v2 v3 v4 v5 v6 v7 : Nat → Int32} {K83 : Int32 → Int32 → Int32 → Int32 → Int32 → Int32 → (Nat → Int32) → (Nat → Int32) → (Nat → Int32) → (Nat → Int32) → (Nat → Int32) → (Nat → Int64) → (Nat → Int32) → (Nat → Int32) → (Nat → Int32) → (Nat → Int32) → Int32 → Option O17} (hfo : fo ≤ 100) : ∀ m k f, k + m = fo → m < f →
    f_X5_classes_91 (nI n) (nI nd) (nI R) (nI 0) (aI tm) (aI bt) (aI cl) vtk (aI go) K83 f vth vta vch vno (nI fo) vsp v1 v2 v3 v4 v5 (aL ke) (aI rg) (aI mk) v6 v7 (nI 0) (nI k) = K83 vth vta vch vno (nI fo) vsp v1 v2 v3 v4 v5 (aL ke) (aI rg) (aI mk) v6 v7 (nI 0) := by
  intro m
  induction m with
  | zero =>
    intro k f e hf
    obtain ⟨p, rfl, hp⟩ := qt_fuel hf
    have e : k = fo := by omega
    subst e
    simp only [f_X5_classes_91]
    rw [if_pos (Int32.le_refl _)]
  | succ m ih =>
    intro k f e hf
    obtain ⟨p, rfl, hp⟩ := qt_fuel hf
    simp only [f_X5_classes_91]
    have hnk : ¬ nI fo ≤ nI k := by rw [qz_le (by omega) (by omega)]; omega
    rw [if_neg hnk, qz_i0, rp_102 1000000 (by omega)]
    exact ih (k + 1) p (by omega) (by omega)
theorem rp_83z {n nd R fo : Nat} {tm bt cl go ke rg mk : Nat → Nat} {vtk : Nat → Int32} {vth vta vch vno vsp : Int32} {v1 v2 v3 v4 v5 v6 v7 : Nat → Int32} (hfo : fo ≤ 100) (hmk : ∀ i, i < fo → mk i = i) : ∀ f, 0 < f →
    ∃ o : O17, f_X5_classes_83 (nI n) (nI nd) (nI R) (nI 0) (aI tm) (aI bt) (aI cl) vtk (aI go) f vth vta vch vno (nI fo) vsp v1 v2 v3 v4 v5 (aL ke) (aI rg) (aI mk) v6 v7 (nI 0) = some o ∧ po17 vth vta o ∧ o.1 = nI fo := by
  intro f hf
  obtain ⟨p, rfl, hp⟩ := qt_fuel hf
  simp only [f_X5_classes_83]
  rw [if_pos (by decide), qz_i0]
  exact rp_284 hfo hmk fo 0 1000000 (by omega) (by omega)
theorem rp_83 {n nd R fo : Nat} {tm bt cl go ke rg mk : Nat → Nat} {vtk : Nat → Int32} {vth vta vch vno vsp : Int32} {v1 v2 v3 v4 v5 v6 v7 : Nat → Int32} (hfo : fo ≤ 100) (hmk : ∀ i, i < fo → mk i = i) : ∀ f, 1 < f →
    ∃ o : O17, f_X5_classes_83 (nI n) (nI nd) (nI R) (nI 0) (aI tm) (aI bt) (aI cl) vtk (aI go) f vth vta vch vno (nI fo) vsp v1 v2 v3 v4 v5 (aL ke) (aI rg) (aI mk) v6 v7 (nI 1) = some o ∧ po17 vth vta o ∧ o.1 = nI fo := by
  intro f hf
  obtain ⟨p, rfl, hp⟩ := qt_fuel hf
  simp only [f_X5_classes_83]
  rw [if_neg (by decide), qz_i0, rp_91 hfo fo 0 1000000 (by omega) (by omega)]
  exact rp_83z hfo hmk p (by omega)
theorem rp_60 {n nd R fo : Nat} {tm bt cl go ke rg : Nat → Nat} {vtk : Nat → Int32} {vth vta vch vno vsp : Int32} {v1 v2 v3 v4 v5 v6 v7 : Nat → Int32} (hfo : fo ≤ 100) : ∀ m k f mk, k + m = fo → m < f → (∀ i, i < k → mk i = i) →
    ∃ o : O17, f_X5_classes_60 (nI n) (nI nd) (nI R) (nI 0) (aI tm) (aI bt) (aI cl) vtk (aI go) f vth vta vch vno (nI fo) vsp v1 v2 v3 v4 v5 (aL ke) (aI rg) (aI mk) v6 v7 (nI k) = some o ∧ po17 vth vta o ∧ o.1 = nI fo := by
  intro m
  induction m with
  | zero =>
    intro k f mk e hf hm
    obtain ⟨p, rfl, hp⟩ := qt_fuel hf
    have e : k = fo := by omega
    subst e
    simp only [f_X5_classes_60]
    rw [if_pos (Int32.le_refl _), qz_i1]
    exact rp_83 hfo hm 1000000 (by omega)
  | succ m ih =>
    intro k f mk e hf hm
    obtain ⟨p, rfl, hp⟩ := qt_fuel hf
    simp only [f_X5_classes_60]
    simp (disch := omega) only [qz_i0, qz_i1, qz_i2, qz_i3, qz_i4, qz_i5, qz_i6, qz_i7, qz_i8, qz_i9, qz_i24, qz_i27, qz_i31, qz_i60, qz_i61, qz_i100, qz_i101, qz_i50000, qz_i100000, ql_i0, ql_i1, ql_i63, ql_m1, qz_m1, qz_le, qz_lt, qz_eq, qz_add, qz_mul, qz_sub, qz_an, qz_ix, qz_and, qz_or, qz_shl, qz_shr, qz_andn, ql_eq, ql_and, ql_or, ql_shl, ql_shr, ql_andn, ql_of, qz_k31, qz_k63, qz_bit, qz_b0, qz_b1, ql_b0, ql_b1, lg_0, qz_gd, Nat.one_shiftLeft, aI_ap, aL_ap, upd_aI, upd_aL, aV_ap, upd_aV, upd_aVm]
    rw [if_neg (by omega)]
    refine ih (k + 1) p _ (by omega) (by omega) (fun i hi => ?_)
    by_cases e : i = k
    · rw [e, updN_s]
    · rw [updN_n e]; exact hm i (by omega)
theorem rp_ref {n nd : Nat} {tm bt cl tk go ke0 : Nat → Nat} {vth vta vch vno vfo vsp : Int32} {v1 v2 v3 v4 v5 v6 v7 v8 v9 : Nat → Int32} (hT : TB n nd 0 tm bt cl) :
    ∃ o : O17, f_X5_classes (nI n) (nI nd) (nI 0) (nI 0) (aI tm) (aI bt) (aI cl) (aI tk) (aI go) vth vta vch vno vfo vsp v1 v2 v3 v4 v5 (aL ke0) v6 v7 v8 v9 = some o ∧ po17 (nI 0) vta o ∧ o.1 = ansS (srchA n nd 0 tm bt cl ke0 (TS tk 0) 101).1 (srchA n nd 0 tm bt cl ke0 (TS tk 0) 101).2.1 := by
  obtain ⟨cc, rfl⟩ := aI_all v1
  obtain ⟨ic, rfl⟩ := aI_all v2
  obtain ⟨cm, rfl⟩ := aV_all v3
  obtain ⟨nx, rfl⟩ := aI_all v4
  obtain ⟨ba, rfl⟩ := aV_all v5
  obtain ⟨rg0, rfl⟩ := aI_all v6
  obtain ⟨mk, rfl⟩ := aI_all v7
  obtain ⟨cn, rfl⟩ := aI_all v8
  obtain ⟨co, rfl⟩ := aI_all v9
  obtain ⟨o, o1, o2, o3⟩ := rp_turns (n := n) (nd := nd) (vt := aI tm) (vb := aI bt) (vc := aI cl) (vg := aI go) (v := aI rg0)
  unfold f_X5_classes
  rw [o1, Option.bind_some, o3, if_neg (by decide), qz_i0, qz_i101]
  obtain ⟨u, u1, u2, u3, u4, u5⟩ := qy_search (T := 0) (tk := tk) (cc := cc) (ic := ic) (cm := cm) (nx := nx) (ba := ba) (cn := cn) (co := co) (w := ke0) (most := 101) (vch := vch) (vno := vno) (vfo := vfo) (vsp := vsp) hT (fun k hk => by omega) (by omega)
  have hrun := run_sem (n := n) (nd := nd) (R := 0) (due := duF nd tm) (rows := roF 0 bt) (cols := bt) (cs := csF n nd 0 bt cl) (ch := fun _ => 0) (fr := fun _ => 0) (un := fun _ => 0) (uc := fun _ => 0) (ke := ke0) (start := TS tk 0) (most := 101) (tabF bt cl hT.2.2.2.1) hT.2.2.1 (by have h24 := hT.2.1; have hnn := hT.2.2.1; omega) (roF_lt bt hT.2.2.2.1) okS_0 (by rw [TS]; decide)
  have hS : srchA n nd 0 tm bt cl ke0 (TS tk 0) 101 = runA n nd (duF nd tm) (roF 0 bt) bt (csF n nd 0 bt cl) 101 100000 (begA n nd 0 (duF nd tm) (roF 0 bt) (csF n nd 0 bt cl) (fun _ => 0) (fun _ => 0) (fun _ => 0) (fun _ => 0) ke0 (TS tk 0)) := rfl
  rw [← hS] at hrun
  have hb1 : (srchA n nd 0 tm bt cl ke0 (TS tk 0) 101).1 ≤ 50000 := hrun.2.1.1
  have hb2 : (srchA n nd 0 tm bt cl ke0 (TS tk 0) 101).2.1 ≤ (srchA n nd 0 tm bt cl ke0 (TS tk 0) 101).1 := hrun.2.1.2.1
  clear hrun hS
  generalize srchA n nd 0 tm bt cl ke0 (TS tk 0) 101 = s at u2 u3 u4 u5 hb1 hb2 ⊢
  obtain ⟨no, fo, ch, fr, un, uc, ke, lv⟩ := s
  obtain ⟨c1, c2, c3, c4⟩ := u
  obtain ⟨c5, c6⟩ := c4
  simp only at u2 u3 u4 u5 hb1 hb2
  rw [u1, Option.bind_some]
  simp only
  rw [u3, u4, u5]
  unfold ansS
  by_cases hsp : no = 50000
  · unfold spI
    rw [if_pos hsp, if_pos hsp, if_neg (by decide)]
    unfold f_X5_classes_55
    exact ⟨_, rfl, ⟨rfl, rfl⟩, rfl⟩
  · have hsp0 : spI no = nI 0 := if_neg hsp
    rw [hsp0, if_neg hsp, if_pos rfl, qz_i100]
    by_cases hf : fo ≤ 100
    · have hle : nI fo ≤ nI 100 := by rw [qz_le (by omega) (by omega)]; exact hf
      rw [if_pos hle, if_pos hf, o2]
      exact rp_60 hf fo 0 1000000 mk (by omega) (by omega) (fun i hi => by omega)
    · have hle : ¬ nI fo ≤ nI 100 := by rw [qz_le (by omega) (by omega)]; exact hf
      rw [if_neg hle, if_neg hf]
      unfold f_X5_classes_55
      exact ⟨_, rfl, ⟨rfl, rfl⟩, rfl⟩
theorem rp_cls {n nd : Nat} {tm bt cl tk go w : Nat → Nat} {vc v1 v2 : Nat → Int32} {y1 y2 : Int32} {u1 u2 u3 : Nat → Int64} {u4 : Nat → Int32} {u5 : Nat → Int64} (hT : TB n nd 0 tm bt cl) :
    ∃ o, f_X4_classes (nI n) (nI nd) (nI 0) (aI (duF nd tm)) (aI bt) vc (aL (roF 0 bt)) (aL (csF n nd 0 bt cl)) (nI 0) (aI go) v1 v2 y1 y2 u1 u2 u3 u4 u5 = some o ∧ o.1 = ansS (srchA n nd 0 tm bt cl w (TS tk 0) 101).1 (srchA n nd 0 tm bt cl w (TS tk 0) 101).2.1 := by
  have hR := hT.2.2.2.1
  have hn := hT.2.1
  have hnd := hT.2.2.1
  have htab := tabF (n := n) (nd := nd) bt cl hR
  obtain ⟨ch, rfl⟩ := aL_all u1
  obtain ⟨fr, rfl⟩ := aL_all u2
  obtain ⟨un, rfl⟩ := aL_all u3
  obtain ⟨uc, rfl⟩ := aI_all u4
  obtain ⟨ke, rfl⟩ := aL_all u5
  obtain ⟨a, a1, a2⟩ := rp_alike (n := n) (vb := aI bt) (vc := vc)
  obtain ⟨b, b1, b2⟩ := rp_keep (n := n) (vd := aI (duF nd tm)) (vb := aI bt) (vc := vc) (vt := aI go) (vi := v1)
  have hcls := qs_runAll (ch := ch) (fr := fr) (un := un) (uc := uc) (ke := ke) (start := 0) (most := 101) (vno := y1) (vfo := y2) (cols := bt) hn hnd hR (du_lt hT) (roF_lt bt hR) (csF_lt (n := n) (nd := nd) bt cl hR) (by omega)
  have hag := run_ag (n := n) (nd := nd) (due := duF nd tm) (rows := roF 0 bt) (cols := bt) (cs := csF n nd 0 bt cl) (most := 101) 100000 _ _ (beg_ag (n := n) (nd := nd) (R := 0) (due := duF nd tm) (rows := roF 0 bt) (cs := csF n nd 0 bt cl) (ch := ch) (fr := fr) (un := un) (uc := uc) (ke := ke) (ch' := fun _ => 0) (fr' := fun _ => 0) (un' := fun _ => 0) (uc' := fun _ => 0) (ke' := w) (start := 0))
  have hsem := run_sem (n := n) (nd := nd) (R := 0) (due := duF nd tm) (rows := roF 0 bt) (cols := bt) (cs := csF n nd 0 bt cl) (ch := ch) (fr := fr) (un := un) (uc := uc) (ke := ke) (start := 0) (most := 101) htab hnd (by omega) (roF_lt bt hR) okS_0 (by decide)
  have hlv := run_lv (n := n) (nd := nd) (due := duF nd tm) (rows := roF 0 bt) (cols := bt) (cs := csF n nd 0 bt cl) (most := 101) 100000 (begA n nd 0 (duF nd tm) (roF 0 bt) (csF n nd 0 bt cl) ch fr un uc ke 0) (fun _ => by show (1 : Nat) ≠ 0; decide)
  have hS : srchA n nd 0 tm bt cl w (TS tk 0) 101 = runA n nd (duF nd tm) (roF 0 bt) bt (csF n nd 0 bt cl) 101 100000 (begA n nd 0 (duF nd tm) (roF 0 bt) (csF n nd 0 bt cl) (fun _ => 0) (fun _ => 0) (fun _ => 0) (fun _ => 0) w 0) := rfl
  rw [hS]
  generalize runA n nd (duF nd tm) (roF 0 bt) bt (csF n nd 0 bt cl) 101 100000 (begA n nd 0 (duF nd tm) (roF 0 bt) (csF n nd 0 bt cl) (fun _ => 0) (fun _ => 0) (fun _ => 0) (fun _ => 0) w 0) = t at hag ⊢
  generalize runA n nd (duF nd tm) (roF 0 bt) bt (csF n nd 0 bt cl) 101 100000 (begA n nd 0 (duF nd tm) (roF 0 bt) (csF n nd 0 bt cl) ch fr un uc ke 0) = s at hag hsem hlv hcls
  obtain ⟨g1, g2, g3, g4, g5⟩ := hag
  have hb1 : s.1 ≤ 50000 := hsem.2.1.1
  have hb2 : s.2.1 ≤ s.1 := hsem.2.1.2.1
  unfold f_X4_classes f_X4_classes_20 f_X4_classes_43
  rw [a1, Option.bind_some, b1, Option.bind_some, a2, b2, if_pos (rfl : (0 : Int32) = 0), if_neg (show ¬ (1 : Int32) = 0 by decide), ql_i0, qz_i101, hcls, Option.bind_some]
  dsimp only
  rw [← g1, ← g2]
  unfold ansS
  by_cases q : s.1 = 50000
  · have hr : retA s = -2 := if_pos ⟨hlv q, by omega⟩
    rw [hr, if_pos (show (-2 : Int32) < 0 by decide), if_pos q]
    exact ⟨_, rfl, rfl⟩
  · have hr : retA s = nI s.2.1 := if_neg (fun z => by omega)
    have hneg : ¬ nI s.2.1 < 0 := by rw [qz_i0, qz_lt (by omega) (by omega)]; omega
    rw [hr, if_neg hneg, if_neg q]
    by_cases hf : s.2.1 ≤ 100
    · have hle : nI s.2.1 ≤ (100 : Int32) := by rw [qz_i100, qz_le (by omega) (by omega)]; exact hf
      obtain ⟨vo', hvo⟩ := rp_count (vi := b.2) (vo := v2) (vw := aL s.2.2.2.2.2.2.1) hf
      rw [if_pos hle, hvo, Option.bind_some, if_pos hf]
      exact ⟨_, rfl, rfl⟩
    · have hle : ¬ nI s.2.1 ≤ (100 : Int32) := by rw [qz_i100, qz_le (by omega) (by omega)]; exact hf
      rw [if_neg hle, if_neg hf]
      exact ⟨_, rfl, rfl⟩
