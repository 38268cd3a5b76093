-- the reference: isImage, turnsRows
theorem qj_im_l {n R : Nat} {bt cl go g : Nat → Nat} {r q : Nat} {x3 : Int32} (hn : n ≤ 24) (hb : ∀ r, bt r < 16777216) (hcl : ∀ j, cl j < 2147483648) (hr : r < 60) (hq : q < 60)
    (hx : (x3 = -1 ∧ ∀ c, g c = c) ∨ ∃ t, t < 8 ∧ x3 = nI t ∧ ∀ c, g c = go (24 * t + c)) (hg : ∀ c, c < n → g c < 24) : ∀ m k f, k + m = n → m < f →
    f_X5_isImage_26 (nI n) (aI bt) (aI cl) (aI go) f (nI r) (nI q) x3 (nI k) = some (nI (allK (fun c => !(bt r).testBit c || ((bt q).testBit (g c) && decide (cl (24 * r + c) = cl (24 * q + g c)))) m k).toNat, ()) := by
  intro m
  induction m with
  | zero =>
    intro k f hk hf
    obtain ⟨p, rfl, hp⟩ := qt_fuel hf
    have e : k = n := by omega
    subst e
    simp only [f_X5_isImage_26]
    rw [if_pos (Int32.le_refl _)]
    rfl
  | succ m ih =>
    intro k f hk hf
    obtain ⟨p, rfl, hp⟩ := qt_fuel hf
    have hstep := ih (k + 1) p (by omega) (by omega)
    have hgk := hg k (by omega)
    have a1 := hcl (24 * r + k)
    have a2 := hcl (24 * q + g k)
    have key : f_X5_isImage_56 (nI n) (aI bt) (aI cl) (aI go) (f_X5_isImage_26 (nI n) (aI bt) (aI cl) (aI go) p) (nI r) (nI q) x3 (nI k) (nI (g k)) = some (nI (allK (fun c => !(bt r).testBit c || ((bt q).testBit (g c) && decide (cl (24 * r + c) = cl (24 * q + g c)))) (m + 1) k).toNat, ()) := by
      unfold f_X5_isImage_56 f_X5_isImage_107 f_X5_isImage_105
      rw [qr_has (hb r) hr (by omega), Option.bind_some, qr_has (hb q) hq hgk, Option.bind_some, allK]
      simp (disch := omega) only [qz_i0, qz_i1, qz_i2, qz_i3, qz_i4, qz_i5, qz_i6, qz_i7, qz_i8, qz_i9, qz_i24, qz_i27, qz_i31, qz_i60, qz_i61, qz_i100, qz_i101, qz_i50000, qz_i100000, ql_i0, ql_i1, ql_i63, ql_m1, qz_m1, qz_le, qz_lt, qz_eq, qz_add, qz_mul, qz_sub, qz_an, qz_ix, qz_and, qz_or, qz_shl, qz_shr, qz_andn, ql_eq, ql_and, ql_or, ql_shl, ql_shr, ql_andn, ql_of, qz_k31, qz_k63, qz_bit, qz_b0, qz_b1, ql_b0, ql_b1, lg_0, qz_gd, Nat.one_shiftLeft, aI_ap, aL_ap, upd_aI, upd_aL, aV_ap, upd_aV, upd_aVm]
      cases h1 : (bt r).testBit k
      · rw [if_pos rfl, Bool.not_false, Bool.true_or, Bool.true_and]
        exact hstep
      · rw [if_neg (by decide), Bool.not_true, Bool.false_or]
        cases h2 : (bt q).testBit (g k)
        · rw [if_pos rfl]; rfl
        · rw [if_neg (by decide), Bool.true_and]
          by_cases h3 : cl (24 * r + k) = cl (24 * q + g k)
          · rw [if_pos h3, decide_eq_true h3, Bool.true_and]
            exact hstep
          · rw [if_neg h3, decide_eq_false h3, Bool.false_and]; rfl
    simp only [f_X5_isImage_26]
    rcases hx with ⟨e1, e2⟩ | ⟨t, t1, t2, t3⟩
    · have e3 : ¬ (0 : Int32) ≤ x3 := by rw [e1]; decide
      have hnk : ¬ nI n ≤ nI k := by rw [qz_le (by omega) (by omega)]; omega
      rw [if_neg hnk, if_neg e3]
      rw [e2 k] at key
      exact key
    · have e3 : (0 : Int32) ≤ x3 := by rw [t2, qz_i0, qz_le (by omega) (by omega)]; omega
      have hnk : ¬ nI n ≤ nI k := by rw [qz_le (by omega) (by omega)]; omega
      rw [if_neg hnk, if_pos e3]
      rw [t3 k] at key
      rw [t2] at key ⊢
      have e4 : (24 : Int32) * nI t + nI k = nI (24 * t + k) := by rw [qz_i24, qz_mul, qz_add]
      rw [e4]
      simp (disch := omega) only [qz_i0, qz_i1, qz_i2, qz_i3, qz_i4, qz_i5, qz_i6, qz_i7, qz_i8, qz_i9, qz_i24, qz_i27, qz_i31, qz_i60, qz_i61, qz_i100, qz_i101, qz_i50000, qz_i100000, ql_i0, ql_i1, ql_i63, ql_m1, qz_m1, qz_le, qz_lt, qz_eq, qz_add, qz_mul, qz_sub, qz_an, qz_ix, qz_and, qz_or, qz_shl, qz_shr, qz_andn, ql_eq, ql_and, ql_or, ql_shl, ql_shr, ql_andn, ql_of, qz_k31, qz_k63, qz_bit, qz_b0, qz_b1, ql_b0, ql_b1, lg_0, qz_gd, Nat.one_shiftLeft, aI_ap, aL_ap, upd_aI, upd_aL, aV_ap, upd_aV, upd_aVm]
      exact key
theorem qj_im {n R : Nat} {bt cl go g : Nat → Nat} {r q : Nat} {x3 : Int32} (hn : n ≤ 24) (hb : ∀ r, bt r < 16777216) (hcl : ∀ j, cl j < 2147483648) (hr : r < 60) (hq : q < 60)
    (hx : (x3 = -1 ∧ ∀ c, g c = c) ∨ ∃ t, t < 8 ∧ x3 = nI t ∧ ∀ c, g c = go (24 * t + c)) (hg : ∀ c, c < n → g c < 24) :
    f_X5_isImage (nI n) (aI bt) (aI cl) (aI go) (nI r) (nI q) x3 = some (nI (imB n bt cl g r q).toNat, ()) := by
  have b1 := hb r
  have b2 := hb q
  have p1 := pc_le (bt r) 24
  have p2 := pc_le (bt q) 24
  unfold f_X5_isImage imB
  simp (disch := omega) only [qz_i0, qz_i1, qz_i2, qz_i3, qz_i4, qz_i5, qz_i6, qz_i7, qz_i8, qz_i9, qz_i24, qz_i27, qz_i31, qz_i60, qz_i61, qz_i100, qz_i101, qz_i50000, qz_i100000, ql_i0, ql_i1, ql_i63, ql_m1, qz_m1, qz_le, qz_lt, qz_eq, qz_add, qz_mul, qz_sub, qz_an, qz_ix, qz_and, qz_or, qz_shl, qz_shr, qz_andn, ql_eq, ql_and, ql_or, ql_shl, ql_shr, ql_andn, ql_of, qz_k31, qz_k63, qz_bit, qz_b0, qz_b1, ql_b0, ql_b1, lg_0, qz_gd, Nat.one_shiftLeft, aI_ap, aL_ap, upd_aI, upd_aL, aV_ap, upd_aV, upd_aVm, qr_countOf, Option.bind_some]
  by_cases h : pc (bt r) 24 = pc (bt q) 24
  · rw [if_pos h, decide_eq_true h, Bool.true_and]
    exact qj_im_l (R := R) hn hb hcl hr hq hx hg n 0 1000000 (by omega) (by omega)
  · rw [if_neg h, decide_eq_false h, Bool.false_and]; rfl
/-- what turnsRows has found out when it says yes -/
def coT (n nd : Nat) (tm g : Nat → Nat) (k : Nat) : Prop := ∀ c, c < k → ((c < nd ↔ g c < nd) ∧ (c < nd → tm c = tm (g c)))
def gdT (n nd R : Nat) (tm bt cl go : Nat → Nat) (K : Nat) (rg : Nat → Nat) : Prop :=
  ∀ t, t < K → coT n nd tm (fun c => go (24 * t + c)) n ∧ ∀ r, r < R → rg (60 * t + r) < R ∧ imB n bt cl (fun c => go (24 * t + c)) r (rg (60 * t + r)) = true
def naT (n R : Nat) (bt cl : Nat → Nat) : Prop := ∀ r q, r < R → q < r → imB n bt cl (fun c => c) r q = false
def ouT (n nd R K : Nat) (tm bt cl go : Nat → Nat) (o : Int32 × (Nat → Int32)) : Prop := ∃ rg : Nat → Nat, o.2 = aI rg ∧ (o.1 = nI 0 ∨ (o.1 = nI 1 ∧ naT n R bt cl ∧ gdT n nd R tm bt cl go K rg))
theorem qj_12 {n nd R K : Nat} {tm bt cl go rg : Nat → Nat} {K2 : (Nat → Int32) → Int32 → Option (Int32 × (Nat → Int32))} {r : Nat} (hT : TB n nd R tm bt cl) (hr : r < R)
    (hK : (∀ q, q < r → imB n bt cl (fun c => c) r q = false) → ∃ o, K2 (aI rg) (nI (r + 1)) = some o ∧ ouT n nd R K tm bt cl go o) : ∀ m k f, k + m = r → m < f → (∀ q, q < k → imB n bt cl (fun c => c) r q = false) →
    ∃ o, f_X5_turnsRows_12 (nI n) (nI nd) (nI R) (nI K) (aI tm) (aI bt) (aI cl) (aI go) K2 f (aI rg) (nI r) (nI k) = some o ∧ ouT n nd R K tm bt cl go o := by
  have h60 := hT.2.2.2.1
  intro m
  induction m with
  | zero =>
    intro k f hk hf hq
    obtain ⟨p, rfl, hp⟩ := qt_fuel hf
    have e : k = r := by omega
    subst e
    obtain ⟨o, o1, o2⟩ := hK hq
    refine ⟨o, ?_, o2⟩
    simp only [f_X5_turnsRows_12]
    rw [if_pos (Int32.le_refl _), qz_i1, qz_add]
    exact o1
  | succ m ih =>
    intro k f hk hf hq
    obtain ⟨p, rfl, hp⟩ := qt_fuel hf
    simp only [f_X5_turnsRows_12]
    rw [qj_im (R := R) hT.2.1 hT.b24 (fun j => Nat.lt_of_le_of_lt (hT.2.2.2.2.2.2.1 j) (by decide)) (by omega) (by omega) (Or.inl ⟨rfl, fun _ => rfl⟩) (fun c hc => by have := hT.2.1; omega), Option.bind_some]
    simp (disch := omega) only [qz_i0, qz_i1, qz_i2, qz_i3, qz_i4, qz_i5, qz_i6, qz_i7, qz_i8, qz_i9, qz_i24, qz_i27, qz_i31, qz_i60, qz_i61, qz_i100, qz_i101, qz_i50000, qz_i100000, ql_i0, ql_i1, ql_i63, ql_m1, qz_m1, qz_le, qz_lt, qz_eq, qz_add, qz_mul, qz_sub, qz_an, qz_ix, qz_and, qz_or, qz_shl, qz_shr, qz_andn, ql_eq, ql_and, ql_or, ql_shl, ql_shr, ql_andn, ql_of, qz_k31, qz_k63, qz_bit, qz_b0, qz_b1, ql_b0, ql_b1, lg_0, qz_gd, Nat.one_shiftLeft, aI_ap, aL_ap, upd_aI, upd_aL, aV_ap, upd_aV, upd_aVm]
    rw [if_neg (by omega)]
    cases hb : imB n bt cl (fun c => c) r k
    · rw [if_pos rfl]
      refine ih (k + 1) p (by omega) (by omega) (fun q hq2 => ?_)
      by_cases e : q = k
      · rw [e]; exact hb
      · exact hq q (by omega)
    · rw [if_neg (by decide)]
      exact ⟨_, rfl, rg, rfl, Or.inl rfl⟩
theorem qj_145 {n nd R K : Nat} {tm bt cl go rg : Nat → Nat} {K43 : (Nat → Int32) → Int32 → Option (Int32 × (Nat → Int32))} {K135 : (Nat → Int32) → Int32 → Int32 → Option (Int32 × (Nat → Int32))} {t r : Nat} (hT : TB n nd R tm bt cl) (ht : t < 8) (hg : ∀ c, c < n → go (24 * t + c) < 24) (hr : r < R)
    (hK : ∀ q, q < R → imB n bt cl (fun c => go (24 * t + c)) r q = true → ∃ o, K135 (aI (updN rg (60 * t + r) q)) (nI t) (nI (r + 1)) = some o ∧ ouT n nd R K tm bt cl go o) : ∀ m k f, k + m = R → m < f →
    ∃ o, f_X5_turnsRows_145 (nI n) (nI nd) (nI R) (nI K) (aI tm) (aI bt) (aI cl) (aI go) K43 K135 f (aI rg) (nI t) (nI r) (nI k) = some o ∧ ouT n nd R K tm bt cl go o := by
  have h60 := hT.2.2.2.1
  intro m
  induction m with
  | zero =>
    intro k f hk hf
    obtain ⟨p, rfl, hp⟩ := qt_fuel hf
    have e : k = R := by omega
    subst e
    simp only [f_X5_turnsRows_145, f_X5_turnsRows_169]
    rw [if_pos (Int32.le_refl _), if_pos trivial]
    exact ⟨_, rfl, rg, rfl, Or.inl rfl⟩
  | succ m ih =>
    intro k f hk hf
    obtain ⟨p, rfl, hp⟩ := qt_fuel hf
    simp only [f_X5_turnsRows_145, f_X5_turnsRows_169]
    rw [qj_im (R := R) (g := fun c => go (24 * t + c)) hT.2.1 hT.b24 (fun j => Nat.lt_of_le_of_lt (hT.2.2.2.2.2.2.1 j) (by decide)) (by omega) (by omega) (Or.inr ⟨t, ht, rfl, fun _ => rfl⟩) hg, Option.bind_some]
    simp (disch := omega) only [qz_i0, qz_i1, qz_i2, qz_i3, qz_i4, qz_i5, qz_i6, qz_i7, qz_i8, qz_i9, qz_i24, qz_i27, qz_i31, qz_i60, qz_i61, qz_i100, qz_i101, qz_i50000, qz_i100000, ql_i0, ql_i1, ql_i63, ql_m1, qz_m1, qz_le, qz_lt, qz_eq, qz_add, qz_mul, qz_sub, qz_an, qz_ix, qz_and, qz_or, qz_shl, qz_shr, qz_andn, ql_eq, ql_and, ql_or, ql_shl, ql_shr, ql_andn, ql_of, qz_k31, qz_k63, qz_bit, qz_b0, qz_b1, ql_b0, ql_b1, lg_0, qz_gd, Nat.one_shiftLeft, aI_ap, aL_ap, upd_aI, upd_aL, aV_ap, upd_aV, upd_aVm]
    rw [if_neg (by omega)]
    cases hb : imB n bt cl (fun c => go (24 * t + c)) r k
    · rw [if_pos rfl]
      exact ih (k + 1) p (by omega) (by omega)
    · rw [if_neg (by decide), if_neg (by omega)]
      exact hK k (by omega) hb
theorem qj_135 {n nd R K : Nat} {tm bt cl go : Nat → Nat} {K43 : (Nat → Int32) → Int32 → Option (Int32 × (Nat → Int32))} {t : Nat} (hT : TB n nd R tm bt cl) (ht : t < 8) (hg : ∀ c, c < n → go (24 * t + c) < 24)
    (hK : ∀ rg, (∀ r, r < R → rg (60 * t + r) < R ∧ imB n bt cl (fun c => go (24 * t + c)) r (rg (60 * t + r)) = true) → gdT n nd R tm bt cl go t rg → ∃ o, K43 (aI rg) (nI (t + 1)) = some o ∧ ouT n nd R K tm bt cl go o) : ∀ m k f rg, k + m = R → m < f → (∀ r, r < k → rg (60 * t + r) < R ∧ imB n bt cl (fun c => go (24 * t + c)) r (rg (60 * t + r)) = true) → gdT n nd R tm bt cl go t rg →
    ∃ o, f_X5_turnsRows_135 (nI n) (nI nd) (nI R) (nI K) (aI tm) (aI bt) (aI cl) (aI go) K43 f (aI rg) (nI t) (nI k) = some o ∧ ouT n nd R K tm bt cl go o := by
  have h60 := hT.2.2.2.1
  intro m
  induction m with
  | zero =>
    intro k f rg hk hf h1 h2
    obtain ⟨p, rfl, hp⟩ := qt_fuel hf
    have e : k = R := by omega
    subst e
    obtain ⟨o, o1, o2⟩ := hK rg h1 h2
    refine ⟨o, ?_, o2⟩
    simp only [f_X5_turnsRows_135]
    rw [if_pos (Int32.le_refl _), qz_i1, qz_add]
    exact o1
  | succ m ih =>
    intro k f rg hk hf h1 h2
    obtain ⟨p, rfl, hp⟩ := qt_fuel hf
    simp only [f_X5_turnsRows_135]
    have hnk : ¬ nI R ≤ nI k := by rw [qz_le (by omega) (by omega)]; omega
    rw [if_neg hnk]
    refine qj_145 hT ht hg (by omega) (fun q q1 q2 => ?_) R 0 1000000 (by omega) (by omega)
    refine ih (k + 1) p _ (by omega) (by omega) ?_ ?_
    · intro r hr
      by_cases e : r = k
      · subst e; rw [updN_s]; exact ⟨q1, q2⟩
      · rw [updN_n (by omega)]; exact h1 r (by omega)
    · intro t' t1
      refine ⟨(h2 t' t1).1, fun r hr => ?_⟩
      rw [updN_n (by omega)]
      exact (h2 t' t1).2 r hr
theorem qj_53 {n nd R K : Nat} {tm bt cl go rg : Nat → Nat} {K43 : (Nat → Int32) → Int32 → Option (Int32 × (Nat → Int32))} {t : Nat} (hT : TB n nd R tm bt cl) (ht : t < 8) (hg : ∀ c, c < n → go (24 * t + c) < 24)
    (hK : ∀ rg, coT n nd tm (fun c => go (24 * t + c)) n → (∀ r, r < R → rg (60 * t + r) < R ∧ imB n bt cl (fun c => go (24 * t + c)) r (rg (60 * t + r)) = true) → gdT n nd R tm bt cl go t rg → ∃ o, K43 (aI rg) (nI (t + 1)) = some o ∧ ouT n nd R K tm bt cl go o) (h2 : gdT n nd R tm bt cl go t rg) : ∀ m k f, k + m = n → m < f → coT n nd tm (fun c => go (24 * t + c)) k →
    ∃ o, f_X5_turnsRows_53 (nI n) (nI nd) (nI R) (nI K) (aI tm) (aI bt) (aI cl) (aI go) K43 f (aI rg) (nI t) (nI k) = some o ∧ ouT n nd R K tm bt cl go o := by
  have h60 := hT.2.2.2.1
  have hn := hT.2.1
  have hnd := hT.2.2.1
  intro m
  induction m with
  | zero =>
    intro k f hk hf hc
    obtain ⟨p, rfl, hp⟩ := qt_fuel hf
    have e : k = n := by omega
    subst e
    simp only [f_X5_turnsRows_53]
    rw [if_pos (Int32.le_refl _), qz_i0]
    exact qj_135 hT ht hg (fun rg a b => hK rg hc a b) R 0 1000000 rg (by omega) (by omega) (fun r hr => by omega) h2
  | succ m ih =>
    intro k f hk hf hc
    obtain ⟨p, rfl, hp⟩ := qt_fuel hf
    have hgk := hg k (by omega)
    have t1 := hT.2.2.2.2.2.2.2.1 k
    have t2 := hT.2.2.2.2.2.2.2.1 (go (24 * t + k))
    have hnext : ((k < nd ↔ go (24 * t + k) < nd) ∧ (k < nd → tm k = tm (go (24 * t + k)))) → ∃ o, f_X5_turnsRows_53 (nI n) (nI nd) (nI R) (nI K) (aI tm) (aI bt) (aI cl) (aI go) K43 p (aI rg) (nI t) (nI (k + 1)) = some o ∧ ouT n nd R K tm bt cl go o := by
      intro hx
      refine ih (k + 1) p (by omega) (by omega) (fun c hc2 => ?_)
      by_cases e : c = k
      · subst e; exact hx
      · exact hc c (by omega)
    simp only [f_X5_turnsRows_53, f_X5_turnsRows_86, f_X5_turnsRows_99, f_X5_turnsRows_127, f_X5_turnsRows_125]
    simp (disch := omega) only [qz_i0, qz_i1, qz_i2, qz_i3, qz_i4, qz_i5, qz_i6, qz_i7, qz_i8, qz_i9, qz_i24, qz_i27, qz_i31, qz_i60, qz_i61, qz_i100, qz_i101, qz_i50000, qz_i100000, ql_i0, ql_i1, ql_i63, ql_m1, qz_m1, qz_le, qz_lt, qz_eq, qz_add, qz_mul, qz_sub, qz_an, qz_ix, qz_and, qz_or, qz_shl, qz_shr, qz_andn, ql_eq, ql_and, ql_or, ql_shl, ql_shr, ql_andn, ql_of, qz_k31, qz_k63, qz_bit, qz_b0, qz_b1, ql_b0, ql_b1, lg_0, qz_gd, Nat.one_shiftLeft, aI_ap, aL_ap, upd_aI, upd_aL, aV_ap, upd_aV, upd_aVm]
    rw [if_neg (by omega)]
    by_cases c1 : nd ≤ k
    · rw [if_pos c1]
      by_cases c2 : nd ≤ go (24 * t + k)
      · rw [if_pos c2, if_pos trivial, if_pos c1]
        exact hnext ⟨⟨fun z => by omega, fun z => by omega⟩, fun z => by omega⟩
      · rw [if_neg c2, if_neg (by decide)]
        exact ⟨_, rfl, rg, rfl, Or.inl rfl⟩
    · rw [if_neg c1]
      by_cases c2 : nd ≤ go (24 * t + k)
      · rw [if_pos c2, if_neg (by decide)]
        exact ⟨_, rfl, rg, rfl, Or.inl rfl⟩
      · rw [if_neg c2, if_pos trivial, if_neg c1]
        by_cases c3 : tm k = tm (go (24 * t + k))
        · rw [if_pos c3]
          exact hnext ⟨⟨fun z => by omega, fun z => by omega⟩, fun _ => c3⟩
        · rw [if_neg c3]
          exact ⟨_, rfl, rg, rfl, Or.inl rfl⟩
theorem qj_43 {n nd R K : Nat} {tm bt cl go : Nat → Nat} (hT : TB n nd R tm bt cl) (hK8 : K ≤ 8) (hg : ∀ t, t < K → ∀ c, c < n → go (24 * t + c) < 24) (hna : naT n R bt cl) : ∀ m k f rg, k + m = K → m < f → gdT n nd R tm bt cl go k rg →
    ∃ o, f_X5_turnsRows_43 (nI n) (nI nd) (nI R) (nI K) (aI tm) (aI bt) (aI cl) (aI go) f (aI rg) (nI k) = some o ∧ ouT n nd R K tm bt cl go o := by
  intro m
  induction m with
  | zero =>
    intro k f rg hk hf h2
    obtain ⟨p, rfl, hp⟩ := qt_fuel hf
    have e : k = K := by omega
    subst e
    simp only [f_X5_turnsRows_43]
    rw [if_pos (Int32.le_refl _)]
    exact ⟨_, rfl, rg, rfl, Or.inr ⟨rfl, hna, h2⟩⟩
  | succ m ih =>
    intro k f rg hk hf h2
    obtain ⟨p, rfl, hp⟩ := qt_fuel hf
    simp only [f_X5_turnsRows_43]
    have hnk : ¬ nI K ≤ nI k := by rw [qz_le (by omega) (by omega)]; omega
    rw [if_neg hnk]
    refine qj_53 hT (by omega) (hg k (by omega)) (fun rg' a b c => ?_) h2 n 0 1000000 (by omega) (by have := hT.2.1; omega) (fun c hc => by omega)
    refine ih (k + 1) p rg' (by omega) (by omega) (fun t ht => ?_)
    by_cases e : t = k
    · subst e; exact ⟨a, b⟩
    · exact c t (by omega)
theorem qj_turnsRows {n nd R K : Nat} {tm bt cl go rg : Nat → Nat} (hT : TB n nd R tm bt cl) (hK8 : K ≤ 8) (hg : ∀ t, t < K → ∀ c, c < n → go (24 * t + c) < 24) :
    ∃ o, f_X5_turnsRows (nI n) (nI nd) (nI R) (nI K) (aI tm) (aI bt) (aI cl) (aI go) (aI rg) = some o ∧ ouT n nd R K tm bt cl go o := by
  have h60 := hT.2.2.2.1
  have key : ∀ m k f, k + m = R → m < f → (∀ r q, r < k → q < r → imB n bt cl (fun c => c) r q = false) → ∃ o, f_X5_turnsRows_2 (nI n) (nI nd) (nI R) (nI K) (aI tm) (aI bt) (aI cl) (aI go) f (aI rg) (nI k) = some o ∧ ouT n nd R K tm bt cl go o := by
    intro m
    induction m with
    | zero =>
      intro k f hk hf h
      obtain ⟨p, rfl, hp⟩ := qt_fuel hf
      have e : k = R := by omega
      subst e
      simp only [f_X5_turnsRows_2]
      rw [if_pos (Int32.le_refl _), qz_i0]
      exact qj_43 hT hK8 hg h K 0 1000000 rg (by omega) (by omega) (fun t ht => by omega)
    | succ m ih =>
      intro k f hk hf h
      obtain ⟨p, rfl, hp⟩ := qt_fuel hf
      simp only [f_X5_turnsRows_2]
      have hnk : ¬ nI R ≤ nI k := by rw [qz_le (by omega) (by omega)]; omega
      rw [if_neg hnk, qz_i0]
      refine qj_12 hT (by omega) (fun hq => ?_) k 0 1000000 (by omega) (by omega) (fun q hq => by omega)
      refine ih (k + 1) p (by omega) (by omega) (fun r q hr hq2 => ?_)
      by_cases e : r = k
      · subst e; exact hq q hq2
      · exact h r q (by omega) hq2
  exact key R 0 1000000 (by omega) (by omega) (fun r q hr => by omega)
