-- the class: classes comes to its end
theorem ql_same {n : Nat} {vc : Nat → Int32} {r q : Nat} (hn : n ≤ 24) (hr : r < 60) (hq : q < 60) : ∃ b : Bool, f_X2_haveSameColours (nI n) vc (nI r) (nI q) = some (nI b.toNat, ()) := by
  have key : ∀ m k f, k + m = n → m < f → ∃ b : Bool, f_X2_haveSameColours_2 (nI n) vc f (nI r) (nI q) (nI k) = some (nI b.toNat, ()) := by
    intro m
    induction m with
    | zero =>
      intro k f hk hf
      obtain ⟨p, rfl, hp⟩ := qt_fuel hf
      have e : k = n := by omega
      subst e
      simp only [f_X2_haveSameColours_2]
      rw [if_pos (Int32.le_refl _)]
      exact ⟨true, rfl⟩
    | succ m ih =>
      intro k f hk hf
      obtain ⟨p, rfl, hp⟩ := qt_fuel hf
      simp only [f_X2_haveSameColours_2]
      simp (disch := omega) only [qz_i0, qz_i1, qz_i2, qz_i3, qz_i4, qz_i5, qz_i6, qz_i7, qz_i8, qz_i9, qz_i24, qz_i27, qz_i31, qz_i60, qz_i61, qz_i100, qz_i101, qz_i50000, qz_i100000, ql_i0, ql_i1, ql_i63, ql_m1, qz_m1, qz_le, qz_lt, qz_eq, qz_add, qz_mul, qz_sub, qz_an, qz_ix, qz_and, qz_or, qz_shl, qz_shr, qz_andn, ql_eq, ql_and, ql_or, ql_shl, ql_shr, ql_andn, ql_of, qz_k31, qz_k63, qz_bit, qz_b0, qz_b1, ql_b0, ql_b1, lg_0, qz_gd, Nat.one_shiftLeft, aI_ap, aL_ap, upd_aI, upd_aL, aV_ap, upd_aV, upd_aVm]
      rw [if_neg (by omega)]
      split
      · exact ih (k + 1) p (by omega) (by omega)
      · exact ⟨false, rfl⟩
  exact key n 0 1000000 (by omega) (by omega)
theorem ql_alike {n R : Nat} {vb vc : Nat → Int32} (hn : n ≤ 24) (hR : R ≤ 60) : ∃ b : Bool, f_X2_hasAlikeRows (nI n) (nI R) vb vc = some (nI b.toNat, ()) := by
  have k12 : ∀ (K2 : Int32 → Option (Int32 × Unit)) r, r < R → (∃ b : Bool, K2 (nI (r + 1)) = some (nI b.toNat, ())) → ∀ m k f, k + m = r → m < f → ∃ b : Bool, f_X2_hasAlikeRows_12 (nI n) (nI R) vb vc K2 f (nI r) (nI k) = some (nI b.toNat, ()) := by
    intro K2 r hr hK m
    induction m with
    | zero =>
      intro k f hk hf
      obtain ⟨p, rfl, hp⟩ := qt_fuel hf
      have e : k = r := by omega
      subst e
      simp only [f_X2_hasAlikeRows_12]
      rw [if_pos (Int32.le_refl _), qz_i1, qz_add]
      exact hK
    | succ m ih =>
      intro k f hk hf
      obtain ⟨p, rfl, hp⟩ := qt_fuel hf
      obtain ⟨b, hb⟩ := ql_same (vc := vc) hn (show r < 60 by omega) (show k < 60 by omega)
      simp only [f_X2_hasAlikeRows_12, f_X2_hasAlikeRows_43]
      rw [hb, Option.bind_some]
      simp (disch := omega) only [qz_i0, qz_i1, qz_i2, qz_i3, qz_i4, qz_i5, qz_i6, qz_i7, qz_i8, qz_i9, qz_i24, qz_i27, qz_i31, qz_i60, qz_i61, qz_i100, qz_i101, qz_i50000, qz_i100000, ql_i0, ql_i1, ql_i63, ql_m1, qz_m1, qz_le, qz_lt, qz_eq, qz_add, qz_mul, qz_sub, qz_an, qz_ix, qz_and, qz_or, qz_shl, qz_shr, qz_andn, ql_eq, ql_and, ql_or, ql_shl, ql_shr, ql_andn, ql_of, qz_k31, qz_k63, qz_bit, qz_b0, qz_b1, ql_b0, ql_b1, lg_0, qz_gd, Nat.one_shiftLeft, aI_ap, aL_ap, upd_aI, upd_aL, aV_ap, upd_aV, upd_aVm]
      rw [if_neg (by omega)]
      split
      · split
        · exact ih (k + 1) p (by omega) (by omega)
        · exact ⟨true, rfl⟩
      · exact ih (k + 1) p (by omega) (by omega)
  have key : ∀ m k f, k + m = R → m < f → ∃ b : Bool, f_X2_hasAlikeRows_2 (nI n) (nI R) vb vc f (nI k) = some (nI b.toNat, ()) := by
    intro m
    induction m with
    | zero =>
      intro k f hk hf
      obtain ⟨p, rfl, hp⟩ := qt_fuel hf
      have e : k = R := by omega
      subst e
      simp only [f_X2_hasAlikeRows_2]
      rw [if_pos (Int32.le_refl _)]
      exact ⟨false, rfl⟩
    | succ m ih =>
      intro k f hk hf
      obtain ⟨p, rfl, hp⟩ := qt_fuel hf
      simp only [f_X2_hasAlikeRows_2]
      have hnk : ¬ nI R ≤ nI k := by rw [qz_le (by omega) (by omega)]; omega
      rw [if_neg hnk, qz_i0]
      exact k12 _ k (by omega) (ih (k + 1) p (by omega) (by omega)) k 0 1000000 (by omega) (by omega)
  exact key R 0 1000000 (by omega) (by omega)
theorem ql_keeps {n t : Nat} {vd : Nat → Int32} {go : Nat → Nat} (hn : n ≤ 24) (ht : t < 8) (hg : ∀ c, c < n → go (t * 24 + c) < 24) : ∃ b : Bool, f_X3_keepsColumns (nI n) vd (aI go) (nI t) = some (nI b.toNat, ()) := by
  have key : ∀ m k f, k + m = n → m < f → ∃ b : Bool, f_X3_keepsColumns_2 (nI n) vd (aI go) f (nI t) (nI k) = some (nI b.toNat, ()) := by
    intro m
    induction m with
    | zero =>
      intro k f hk hf
      obtain ⟨p, rfl, hp⟩ := qt_fuel hf
      have e : k = n := by omega
      subst e
      simp only [f_X3_keepsColumns_2]
      rw [if_pos (Int32.le_refl _)]
      exact ⟨true, rfl⟩
    | succ m ih =>
      intro k f hk hf
      obtain ⟨p, rfl, hp⟩ := qt_fuel hf
      have hgk := hg k (by omega)
      simp only [f_X3_keepsColumns_2]
      simp (disch := omega) only [qz_i0, qz_i1, qz_i2, qz_i3, qz_i4, qz_i5, qz_i6, qz_i7, qz_i8, qz_i9, qz_i24, qz_i27, qz_i31, qz_i60, qz_i61, qz_i100, qz_i101, qz_i50000, qz_i100000, ql_i0, ql_i1, ql_i63, ql_m1, qz_m1, qz_le, qz_lt, qz_eq, qz_add, qz_mul, qz_sub, qz_an, qz_ix, qz_and, qz_or, qz_shl, qz_shr, qz_andn, ql_eq, ql_and, ql_or, ql_shl, ql_shr, ql_andn, ql_of, qz_k31, qz_k63, qz_bit, qz_b0, qz_b1, ql_b0, ql_b1, lg_0, qz_gd, Nat.one_shiftLeft, aI_ap, aL_ap, upd_aI, upd_aL, aV_ap, upd_aV, upd_aVm]
      rw [if_neg (by omega)]
      split
      · exact ih (k + 1) p (by omega) (by omega)
      · exact ⟨false, rfl⟩
  exact key n 0 1000000 (by omega) (by omega)
theorem ql_goesTo {n t r q : Nat} {vb vc : Nat → Int32} {go : Nat → Nat} (hn : n ≤ 24) (ht : t < 8) (hr : r < 60) (hq : q < 60) (hg : ∀ c, c < n → go (t * 24 + c) < 24) : ∃ b : Bool, f_X3_goesTo (nI n) vb vc (aI go) (nI t) (nI r) (nI q) = some (nI b.toNat, ()) := by
  have key : ∀ m k f, k + m = n → m < f → ∃ b : Bool, f_X3_goesTo_3 (nI n) vb vc (aI go) f (nI t) (nI r) (nI q) (nI k) = some (nI b.toNat, ()) := by
    intro m
    induction m with
    | zero =>
      intro k f hk hf
      obtain ⟨p, rfl, hp⟩ := qt_fuel hf
      have e : k = n := by omega
      subst e
      simp only [f_X3_goesTo_3]
      rw [if_pos (Int32.le_refl _)]
      exact ⟨true, rfl⟩
    | succ m ih =>
      intro k f hk hf
      obtain ⟨p, rfl, hp⟩ := qt_fuel hf
      have hgk := hg k (by omega)
      have h75 : ∀ y0 y1 : Int32, ∃ b : Bool, f_X3_goesTo_75 (nI n) vb vc (aI go) (f_X3_goesTo_3 (nI n) vb vc (aI go) p) (nI t) (nI r) (nI q) (nI k) (nI (go (t * 24 + k))) y0 y1 = some (nI b.toNat, ()) := by
        intro y0 y1
        unfold f_X3_goesTo_75 f_X3_goesTo_121
        simp (disch := omega) only [qz_i0, qz_i1, qz_i2, qz_i3, qz_i4, qz_i5, qz_i6, qz_i7, qz_i8, qz_i9, qz_i24, qz_i27, qz_i31, qz_i60, qz_i61, qz_i100, qz_i101, qz_i50000, qz_i100000, ql_i0, ql_i1, ql_i63, ql_m1, qz_m1, qz_le, qz_lt, qz_eq, qz_add, qz_mul, qz_sub, qz_an, qz_ix, qz_and, qz_or, qz_shl, qz_shr, qz_andn, ql_eq, ql_and, ql_or, ql_shl, ql_shr, ql_andn, ql_of, qz_k31, qz_k63, qz_bit, qz_b0, qz_b1, ql_b0, ql_b1, lg_0, qz_gd, Nat.one_shiftLeft, aI_ap, aL_ap, upd_aI, upd_aL, aV_ap, upd_aV, upd_aVm]
        split
        · split
          · exact ih (k + 1) p (by omega) (by omega)
          · exact ⟨false, rfl⟩
        · exact ⟨false, rfl⟩
      have h51 : ∀ y0 : Int32, ∃ b : Bool, f_X3_goesTo_51 (nI n) vb vc (aI go) (f_X3_goesTo_3 (nI n) vb vc (aI go) p) (nI t) (nI r) (nI q) (nI k) (nI (go (t * 24 + k))) y0 = some (nI b.toNat, ()) := by
        intro y0
        unfold f_X3_goesTo_51
        rw [if_neg (by rw [qz_i0, qz_lt (by omega) (by omega), qz_ix (by omega)]; omega)]
        split
        · exact h75 _ _
        · exact h75 _ _
      simp only [f_X3_goesTo_3]
      have e1 : nI t * (24 : Int32) + nI k = nI (t * 24 + k) := by rw [qz_i24, qz_mul, qz_add]
      have hnk : ¬ nI n ≤ nI k := by rw [qz_le (by omega) (by omega)]; omega
      rw [e1, if_neg hnk, if_neg (by rw [qz_i0, qz_lt (by omega) (by omega), qz_ix (by omega)]; omega), if_neg (by rw [qz_i0, qz_lt (by omega) (by omega), qz_ix (by omega)]; omega), qz_ix (k := t * 24 + k) (by omega), aI_ap]
      split
      · exact h51 _
      · exact h51 _
  exact key n 0 1000000 (by omega) (by omega)
theorem ql_rowImage {n R t r : Nat} {vb vc : Nat → Int32} {go : Nat → Nat} (hn : n ≤ 24) (hR : R ≤ 60) (ht : t < 8) (hr : r < 60) (hg : ∀ c, c < n → go (t * 24 + c) < 24) : ∃ y : Int32, f_X3_rowImage (nI n) (nI R) vb vc (aI go) (nI t) (nI r) = some (y, ()) := by
  have key : ∀ m k f, k + m = R → m < f → ∃ y : Int32, f_X3_rowImage_2 (nI n) (nI R) vb vc (aI go) f (nI t) (nI r) (nI k) = some (y, ()) := by
    intro m
    induction m with
    | zero =>
      intro k f hk hf
      obtain ⟨p, rfl, hp⟩ := qt_fuel hf
      have e : k = R := by omega
      subst e
      simp only [f_X3_rowImage_2]
      rw [if_pos (Int32.le_refl _)]
      exact ⟨_, rfl⟩
    | succ m ih =>
      intro k f hk hf
      obtain ⟨p, rfl, hp⟩ := qt_fuel hf
      obtain ⟨b, hb⟩ := ql_goesTo (vb := vb) (vc := vc) hn ht hr (show k < 60 by omega) hg
      simp only [f_X3_rowImage_2]
      have hnk : ¬ nI R ≤ nI k := by rw [qz_le (by omega) (by omega)]; omega
      rw [if_neg hnk, hb, Option.bind_some, qz_i1, qz_add]
      split
      · exact ih (k + 1) p (by omega) (by omega)
      · exact ⟨_, rfl⟩
  exact key R 0 1000000 (by omega) (by omega)
theorem ql_find {n R t : Nat} {vb vc vi : Nat → Int32} {go : Nat → Nat} (hn : n ≤ 24) (hR : R ≤ 60) (ht : t < 8) (hg : ∀ c, c < n → go (t * 24 + c) < 24) : ∃ (b : Bool) (vi' : Nat → Int32), f_X3_findRowImages (nI n) (nI R) vb vc (aI go) vi (nI t) = some (nI b.toNat, vi') := by
  have key : ∀ m k f vi, k + m = R → m < f → ∃ (b : Bool) (vi' : Nat → Int32), f_X3_findRowImages_2 (nI n) (nI R) vb vc (aI go) f vi (nI t) (nI k) = some (nI b.toNat, vi') := by
    intro m
    induction m with
    | zero =>
      intro k f vi hk hf
      obtain ⟨p, rfl, hp⟩ := qt_fuel hf
      have e : k = R := by omega
      subst e
      simp only [f_X3_findRowImages_2]
      rw [if_pos (Int32.le_refl _)]
      exact ⟨true, _, rfl⟩
    | succ m ih =>
      intro k f vi hk hf
      obtain ⟨p, rfl, hp⟩ := qt_fuel hf
      obtain ⟨y, hy⟩ := ql_rowImage (vb := vb) (vc := vc) hn hR ht (show k < 60 by omega) hg
      simp only [f_X3_findRowImages_2]
      rw [hy, Option.bind_some]
      simp (disch := omega) only [qz_i0, qz_i1, qz_i2, qz_i3, qz_i4, qz_i5, qz_i6, qz_i7, qz_i8, qz_i9, qz_i24, qz_i27, qz_i31, qz_i60, qz_i61, qz_i100, qz_i101, qz_i50000, qz_i100000, ql_i0, ql_i1, ql_i63, ql_m1, qz_m1, qz_le, qz_lt, qz_eq, qz_add, qz_mul, qz_sub, qz_an, qz_ix, qz_and, qz_or, qz_shl, qz_shr, qz_andn, ql_eq, ql_and, ql_or, ql_shl, ql_shr, ql_andn, ql_of, qz_k31, qz_k63, qz_bit, qz_b0, qz_b1, ql_b0, ql_b1, lg_0, qz_gd, Nat.one_shiftLeft, aI_ap, aL_ap, upd_aI, upd_aL, aV_ap, upd_aV, upd_aVm]
      rw [if_neg (by omega)]
      split
      · exact ih (k + 1) p _ (by omega) (by omega)
      · exact ⟨false, _, rfl⟩
  exact key R 0 1000000 vi (by omega) (by omega)
theorem ql_keepT {n R K : Nat} {vd vb vc vi : Nat → Int32} {go : Nat → Nat} (hn : n ≤ 24) (hR : R ≤ 60) (hK : K ≤ 8) (hg : ∀ t, t < K → ∀ c, c < n → go (t * 24 + c) < 24) : ∃ (b : Bool) (vi' : Nat → Int32), f_X3_keepTable (nI K) (nI n) (nI R) vd vb vc (aI go) vi = some (nI b.toNat, vi') := by
  have key : ∀ m k f vi, k + m = K → m < f → ∃ (b : Bool) (vi' : Nat → Int32), f_X3_keepTable_2 (nI K) (nI n) (nI R) vd vb vc (aI go) f vi (nI k) = some (nI b.toNat, vi') := by
    intro m
    induction m with
    | zero =>
      intro k f vi hk hf
      obtain ⟨p, rfl, hp⟩ := qt_fuel hf
      have e : k = K := by omega
      subst e
      simp only [f_X3_keepTable_2]
      rw [if_pos (Int32.le_refl _)]
      exact ⟨true, _, rfl⟩
    | succ m ih =>
      intro k f vi hk hf
      obtain ⟨p, rfl, hp⟩ := qt_fuel hf
      obtain ⟨b, hb⟩ := ql_keeps (vd := vd) hn (show k < 8 by omega) (hg k (by omega))
      obtain ⟨b2, vi', hb2⟩ := ql_find (vb := vb) (vc := vc) (vi := vi) hn hR (show k < 8 by omega) (hg k (by omega))
      simp only [f_X3_keepTable_2, f_X3_keepTable_26]
      have hnk : ¬ nI K ≤ nI k := by rw [qz_le (by omega) (by omega)]; omega
      rw [if_neg hnk, hb, Option.bind_some, hb2, Option.bind_some, qz_i1, qz_add]
      split
      · exact ⟨false, _, rfl⟩
      · split
        · exact ⟨false, _, rfl⟩
        · exact ih (k + 1) p _ (by omega) (by omega)
  exact key K 0 1000000 vi (by omega) (by omega)
theorem ql_wayImage {R t : Nat} {vi : Nat → Int32} {x2 : Int64} (hR : R ≤ 60) (ht : t < 8) : ∃ y : Int64, f_X3_wayImage (nI R) vi (nI t) x2 = some (y, ()) := by
  have key : ∀ m k f (x4 : Int64), k + m = R → m < f → ∃ y : Int64, f_X3_wayImage_6 (nI R) vi f (nI t) x2 x4 (nI k) = some (y, ()) := by
    intro m
    induction m with
    | zero =>
      intro k f x4 hk hf
      obtain ⟨p, rfl, hp⟩ := qt_fuel hf
      have e : k = R := by omega
      subst e
      simp only [f_X3_wayImage_6]
      rw [if_pos (Int32.le_refl _)]
      exact ⟨_, rfl⟩
    | succ m ih =>
      intro k f x4 hk hf
      obtain ⟨p, rfl, hp⟩ := qt_fuel hf
      simp only [f_X3_wayImage_6, f_X3_wayImage_48]
      simp (disch := omega) only [qz_i0, qz_i1, qz_i2, qz_i3, qz_i4, qz_i5, qz_i6, qz_i7, qz_i8, qz_i9, qz_i24, qz_i27, qz_i31, qz_i60, qz_i61, qz_i100, qz_i101, qz_i50000, qz_i100000, ql_i0, ql_i1, ql_i63, ql_m1, qz_m1, qz_le, qz_lt, qz_eq, qz_add, qz_mul, qz_sub, qz_an, qz_ix, qz_and, qz_or, qz_shl, qz_shr, qz_andn, ql_eq, ql_and, ql_or, ql_shl, ql_shr, ql_andn, ql_of, qz_k31, qz_k63, qz_bit, qz_b0, qz_b1, ql_b0, ql_b1, lg_0, qz_gd, Nat.one_shiftLeft, aI_ap, aL_ap, upd_aI, upd_aL, aV_ap, upd_aV, upd_aVm]
      rw [if_neg (by omega)]
      split
      · exact ih (k + 1) p _ (by omega) (by omega)
      · exact ih (k + 1) p _ (by omega) (by omega)
  exact key R 0 1000000 _ (by omega) (by omega)
theorem ql_indexOf {w : Nat} {vw : Nat → Int64} {x2 : Int64} (hw : w ≤ 100) : ∃ y : Int32, f_X3_indexOf vw (nI w) x2 = some (y, ()) ∧ (y < 0 ∨ ∃ i, i < w ∧ y = nI i) := by
  have key : ∀ m k f, k + m = w → m < f → ∃ y : Int32, f_X3_indexOf_3 vw f (nI w) x2 (nI k) = some (y, ()) ∧ (y < 0 ∨ ∃ i, i < w ∧ y = nI i) := by
    intro m
    induction m with
    | zero =>
      intro k f hk hf
      obtain ⟨p, rfl, hp⟩ := qt_fuel hf
      have e : k = w := by omega
      subst e
      simp only [f_X3_indexOf_3]
      rw [if_pos (Int32.le_refl _)]
      exact ⟨_, rfl, Or.inl (by decide)⟩
    | succ m ih =>
      intro k f hk hf
      obtain ⟨p, rfl, hp⟩ := qt_fuel hf
      simp only [f_X3_indexOf_3]
      simp (disch := omega) only [qz_i0, qz_i1, qz_i2, qz_i3, qz_i4, qz_i5, qz_i6, qz_i7, qz_i8, qz_i9, qz_i24, qz_i27, qz_i31, qz_i60, qz_i61, qz_i100, qz_i101, qz_i50000, qz_i100000, ql_i0, ql_i1, ql_i63, ql_m1, qz_m1, qz_le, qz_lt, qz_eq, qz_add, qz_mul, qz_sub, qz_an, qz_ix, qz_and, qz_or, qz_shl, qz_shr, qz_andn, ql_eq, ql_and, ql_or, ql_shl, ql_shr, ql_andn, ql_of, qz_k31, qz_k63, qz_bit, qz_b0, qz_b1, ql_b0, ql_b1, lg_0, qz_gd, Nat.one_shiftLeft, aI_ap, aL_ap, upd_aI, upd_aL, aV_ap, upd_aV, upd_aVm]
      rw [if_neg (by omega)]
      split
      · exact ⟨_, rfl, Or.inr ⟨k, by omega, rfl⟩⟩
      · exact ih (k + 1) p (by omega) (by omega)
  exact key w 0 1000000 (by omega) (by omega)
theorem ql_join {w : Nat} {vo : Nat → Int32} {x1 x2 : Int32} (hw : w ≤ 100) : ∃ vo', f_X3_joinClasses vo x1 x2 (nI w) = some vo' := by
  have key : ∀ m k f vo, k + m = w → m < f → ∃ vo', f_X3_joinClasses_3 f vo x1 x2 (nI w) (nI k) = some vo' := by
    intro m
    induction m with
    | zero =>
      intro k f vo hk hf
      obtain ⟨p, rfl, hp⟩ := qt_fuel hf
      have e : k = w := by omega
      subst e
      simp only [f_X3_joinClasses_3]
      rw [if_pos (Int32.le_refl _)]
      exact ⟨_, rfl⟩
    | succ m ih =>
      intro k f vo hk hf
      obtain ⟨p, rfl, hp⟩ := qt_fuel hf
      simp only [f_X3_joinClasses_3, f_X3_joinClasses_28]
      simp (disch := omega) only [qz_i0, qz_i1, qz_i2, qz_i3, qz_i4, qz_i5, qz_i6, qz_i7, qz_i8, qz_i9, qz_i24, qz_i27, qz_i31, qz_i60, qz_i61, qz_i100, qz_i101, qz_i50000, qz_i100000, ql_i0, ql_i1, ql_i63, ql_m1, qz_m1, qz_le, qz_lt, qz_eq, qz_add, qz_mul, qz_sub, qz_an, qz_ix, qz_and, qz_or, qz_shl, qz_shr, qz_andn, ql_eq, ql_and, ql_or, ql_shl, ql_shr, ql_andn, ql_of, qz_k31, qz_k63, qz_bit, qz_b0, qz_b1, ql_b0, ql_b1, lg_0, qz_gd, Nat.one_shiftLeft, aI_ap, aL_ap, upd_aI, upd_aL, aV_ap, upd_aV, upd_aVm]
      rw [if_neg (by omega)]
      split
      · exact ih (k + 1) p _ (by omega) (by omega)
      · exact ih (k + 1) p _ (by omega) (by omega)
  exact key w 0 1000000 vo (by omega) (by omega)
theorem ql_count {K R w : Nat} {vi vo : Nat → Int32} {vw : Nat → Int64} (hR : R ≤ 60) (hK : K ≤ 8) (hw : w ≤ 100) : ∃ o, f_X3_countClasses (nI K) (nI R) vi vw vo (nI w) = some o := by
  have k41 : ∀ (K29 : (Nat → Int32) → Int32 → Int32 → Int32 → Option (Int32 × (Nat → Int32))) t, t < 8 → (∀ vo x3, ∃ o, K29 vo (nI w) x3 (nI (t + 1)) = some o) → ∀ m k f vo x3, k + m = w → m < f → ∃ o, f_X3_countClasses_41 (nI K) (nI R) vi vw K29 f vo (nI w) x3 (nI t) (nI k) = some o := by
    intro K29 t ht hK29 m
    induction m with
    | zero =>
      intro k f vo x3 hk hf
      obtain ⟨p, rfl, hp⟩ := qt_fuel hf
      have e : k = w := by omega
      subst e
      simp only [f_X3_countClasses_41]
      rw [if_pos (Int32.le_refl _), qz_i1, qz_add]
      exact hK29 _ _
    | succ m ih =>
      intro k f vo x3 hk hf
      obtain ⟨p, rfl, hp⟩ := qt_fuel hf
      obtain ⟨y, hy⟩ := ql_wayImage (vi := vi) (x2 := vw k) hR ht
      obtain ⟨z, hz, hz2⟩ := ql_indexOf (vw := vw) (x2 := y) hw
      have hnk : ¬ nI w ≤ nI k := by rw [qz_le (by omega) (by omega)]; omega
      have hgk : ¬ (nI k < 0 ∨ 100 ≤ k) := by rw [qz_i0, qz_lt (by omega) (by omega)]; omega
      simp only [f_X3_countClasses_41, f_X3_countClasses_108]
      rw [if_neg hnk, qz_ix (k := k) (by omega), if_neg hgk, hy, Option.bind_some, hz, Option.bind_some]
      rcases hz2 with h | ⟨i, i1, i2⟩
      · rw [if_pos h, qz_i1, qz_add]
        exact ih (k + 1) p _ _ (by omega) (by omega)
      · subst i2
        have hni : ¬ nI i < 0 := by rw [qz_i0, qz_lt (by omega) (by omega)]; omega
        have hgi : ¬ (nI i < 0 ∨ 100 ≤ (nI i).toNatClampNeg) := by rw [qz_i0, qz_lt (by omega) (by omega), qz_ix (by omega)]; omega
        rw [if_neg hni, if_neg hgi, if_neg hgk, qz_i1, qz_add]
        split
        · exact ih (k + 1) p _ _ (by omega) (by omega)
        · obtain ⟨vo', hvo⟩ := ql_join (vo := vo) (x1 := vo ((nI i, ()) : Int32 × Unit).fst.toNatClampNeg) (x2 := vo k) hw
          rw [hvo, Option.bind_some]
          exact ih (k + 1) p _ _ (by omega) (by omega)
  have k29 : ∀ m k f vo x3, k + m = K → m < f → ∃ o, f_X3_countClasses_29 (nI K) (nI R) vi vw f vo (nI w) x3 (nI k) = some o := by
    intro m
    induction m with
    | zero =>
      intro k f vo x3 hk hf
      obtain ⟨p, rfl, hp⟩ := qt_fuel hf
      have e : k = K := by omega
      subst e
      simp only [f_X3_countClasses_29]
      rw [if_pos (Int32.le_refl _)]
      exact ⟨_, rfl⟩
    | succ m ih =>
      intro k f vo x3 hk hf
      obtain ⟨p, rfl, hp⟩ := qt_fuel hf
      have hnk : ¬ nI K ≤ nI k := by rw [qz_le (by omega) (by omega)]; omega
      simp only [f_X3_countClasses_29]
      rw [if_neg hnk, qz_i0]
      exact k41 _ k (by omega) (fun vo x3 => ih (k + 1) p vo x3 (by omega) (by omega)) w 0 1000000 _ _ (by omega) (by omega)
  have k5 : ∀ m k f vo x3, k + m = w → m < f → ∃ o, f_X3_countClasses_5 (nI K) (nI R) vi vw f vo (nI w) x3 (nI k) = some o := by
    intro m
    induction m with
    | zero =>
      intro k f vo x3 hk hf
      obtain ⟨p, rfl, hp⟩ := qt_fuel hf
      have e : k = w := by omega
      subst e
      simp only [f_X3_countClasses_5]
      rw [if_pos (Int32.le_refl _), qz_i0]
      exact k29 K 0 1000000 _ _ (by omega) (by omega)
    | succ m ih =>
      intro k f vo x3 hk hf
      obtain ⟨p, rfl, hp⟩ := qt_fuel hf
      simp only [f_X3_countClasses_5]
      simp (disch := omega) only [qz_i0, qz_i1, qz_i2, qz_i3, qz_i4, qz_i5, qz_i6, qz_i7, qz_i8, qz_i9, qz_i24, qz_i27, qz_i31, qz_i60, qz_i61, qz_i100, qz_i101, qz_i50000, qz_i100000, ql_i0, ql_i1, ql_i63, ql_m1, qz_m1, qz_le, qz_lt, qz_eq, qz_add, qz_mul, qz_sub, qz_an, qz_ix, qz_and, qz_or, qz_shl, qz_shr, qz_andn, ql_eq, ql_and, ql_or, ql_shl, ql_shr, ql_andn, ql_of, qz_k31, qz_k63, qz_bit, qz_b0, qz_b1, ql_b0, ql_b1, lg_0, qz_gd, Nat.one_shiftLeft, aI_ap, aL_ap, upd_aI, upd_aL, aV_ap, upd_aV, upd_aVm]
      rw [if_neg (by omega)]
      exact ih (k + 1) p _ _ (by omega) (by omega)
  exact k5 w 0 1000000 vo _ (by omega) (by omega)
theorem ql_classes {n nd R K : Nat} {due rows cs bt go : Nat → Nat} {vc : Nat → Int32} {v1 v2 : Nat → Int32} {y1 y2 : Int32} {u1 u2 u3 : Nat → Int64} {u4 : Nat → Int32} {u5 : Nat → Int64} (hn : n ≤ 24) (hnd : nd ≤ n) (hR : R ≤ 60) (hK : K ≤ 8) (hdb : ∀ c, due c < 2147483648) (hrb : ∀ c, rows c < 2 ^ 60) (hcb : ∀ c, cs c < 2 ^ 60) (hg : ∀ t, t < K → ∀ c, c < n → go (24 * t + c) < 24) :
    ∃ o, f_X4_classes (nI n) (nI nd) (nI R) (aI due) (aI bt) vc (aL rows) (aL cs) (nI K) (aI go) v1 v2 y1 y2 u1 u2 u3 u4 u5 = some o := by
  have hg' : ∀ t, t < K → ∀ c, c < n → go (t * 24 + c) < 24 := fun t ht c hc => by rw [Nat.mul_comm]; exact hg t ht c hc
  obtain ⟨b, hb⟩ := ql_alike (vb := aI bt) (vc := vc) hn hR
  obtain ⟨b2, vi, hb2⟩ := ql_keepT (vd := aI due) (vb := aI bt) (vc := vc) (vi := v1) hn hR hK hg'
  obtain ⟨ch, rfl⟩ := aL_all u1
  obtain ⟨fr, rfl⟩ := aL_all u2
  obtain ⟨un, rfl⟩ := aL_all u3
  obtain ⟨uc, rfl⟩ := aI_all u4
  obtain ⟨ke, rfl⟩ := aL_all u5
  unfold f_X4_classes f_X4_classes_20 f_X4_classes_43
  rw [hb, Option.bind_some, hb2, Option.bind_some, ql_i0, qz_i101, qs_runAll hn hnd hR hdb hrb hcb (by omega), Option.bind_some]
  have hq := qs_beg (n := n) (nd := nd) (R := R) (due := due) (rows := rows) (cs := cs) (ch := ch) (fr := fr) (un := un) (uc := uc) (ke := ke) (start := 0) (by omega) hrb
  have hbo := runA_inv (n := n) (nd := nd) (due := due) (rows := rows) (cols := bt) (cs := cs) (most := 101) boA (fun s hp hh => (boA_stp hp hh).1) 100000 _ hq.1
  generalize runA n nd due rows bt cs 101 100000 (begA n nd R due rows cs ch fr un uc ke 0) = t at hbo
  have h1 : t.1 ≤ 50000 := hbo.1
  have h2 : t.2.1 ≤ t.1 := hbo.2.1
  split
  · split
    · exact ⟨_, rfl⟩
    · split
      · exact ⟨_, rfl⟩
      · rename_i hneg
        split
        · rename_i hle
          have hret : retA t = nI t.2.1 := by
            unfold retA
            refine if_neg (fun hc => ?_)
            have : retA t = -2 := if_pos hc
            rw [this] at hneg
            exact hneg (show (-2 : Int32) < 0 by decide)
          rw [hret] at hle ⊢
          have hw : t.2.1 ≤ 100 := by
            rw [qz_i100, qz_le (by omega) (by omega)] at hle
            exact hle
          obtain ⟨o, ho⟩ := ql_count (vi := vi) (vo := v2) (vw := aL t.2.2.2.2.2.2.1) hR hK hw
          rw [ho, Option.bind_some]
          exact ⟨_, rfl⟩
        · exact ⟨_, rfl⟩
  · exact ⟨_, rfl⟩
