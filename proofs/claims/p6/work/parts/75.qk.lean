-- the reference: classes comes to its end
abbrev O17 := Int32 × Int32 × Int32 × Int32 × Int32 × Int32 × Int32 × (Nat → Int32) × (Nat → Int32) × (Nat → Int32) × (Nat → Int32) × (Nat → Int32) × (Nat → Int64) × (Nat → Int32) × (Nat → Int32) × (Nat → Int32) × (Nat → Int32)
def po17 (vth vta : Int32) (o : O17) : Prop := o.2.1 = vth ∧ o.2.2.1 = vta
def ssum (mk : Nat → Nat) : Nat → Nat
  | 0 => 0
  | k + 1 => ssum mk k + mk k
theorem ssum_congr {f g : Nat → Nat} : ∀ n, (∀ c, c < n → f c = g c) → ssum f n = ssum g n
  | 0, _ => rfl
  | n + 1, h => by rw [ssum, ssum, ssum_congr n (fun c hc => h c (by omega)), h n (by omega)]
theorem ssum_upd {f : Nat → Nat} {a v : Nat} : ∀ n, a < n → ssum (updN f a v) n + f a = ssum f n + v
  | 0, h => by omega
  | n + 1, h => by
    rw [ssum, ssum]
    by_cases e : a = n
    · subst e
      have e2 : ssum (updN f a v) a = ssum f a := ssum_congr a (fun c hc => updN_n (by omega))
      rw [updN_s, e2]; omega
    · have := ssum_upd (f := f) (a := a) (v := v) n (by omega)
      rw [updN_n (by omega)]; omega
theorem ssum_le {f : Nat → Nat} : ∀ n, (∀ c, c < n → f c < 100) → ssum f n ≤ 100 * n
  | 0, _ => Nat.le_refl _
  | n + 1, h => by
    rw [ssum]
    have h1 := ssum_le n (fun c hc => h c (by omega))
    have h2 := h n (by omega)
    omega
theorem qk_wayOf {fo x : Nat} {ke : Nat → Nat} (hfo : fo ≤ 100) (hke : ∀ i, i < fo → ke i < 2 ^ 60) (hx : ∃ i, i < fo ∧ ke i = x) : ∃ j, j < fo ∧ f_X5_wayOf (nI fo) (aL ke) (lN x) = some (nI j, ()) := by
  have key : ∀ m k f, k + m = fo → m < f → (∃ i, k ≤ i ∧ i < fo ∧ ke i = x) → ∃ j, j < fo ∧ f_X5_wayOf_2 (nI fo) (aL ke) f (lN x) (nI k) = some (nI j, ()) := by
    intro m
    induction m with
    | zero =>
      intro k f hk hf h
      obtain ⟨i, i1, i2, i3⟩ := h
      omega
    | succ m ih =>
      intro k f hk hf h
      obtain ⟨p, rfl, hp⟩ := qt_fuel hf
      obtain ⟨i, i1, i2, i3⟩ := h
      have hk1 := hke k (by omega)
      have hi1 := hke i i2
      rw [i3] at hi1
      simp only [f_X5_wayOf_2]
      simp (disch := omega) only [qz_i0, qz_i1, qz_i2, qz_i3, qz_i4, qz_i5, qz_i6, qz_i7, qz_i8, qz_i9, qz_i24, qz_i27, qz_i31, qz_i60, qz_i61, qz_i100, qz_i101, qz_i50000, qz_i100000, ql_i0, ql_i1, ql_i63, ql_m1, qz_m1, qz_le, qz_lt, qz_eq, qz_add, qz_mul, qz_sub, qz_an, qz_ix, qz_and, qz_or, qz_shl, qz_shr, qz_andn, ql_eq, ql_and, ql_or, ql_shl, ql_shr, ql_andn, ql_of, qz_k31, qz_k63, qz_bit, qz_b0, qz_b1, ql_b0, ql_b1, lg_0, qz_gd, Nat.one_shiftLeft, aI_ap, aL_ap, upd_aI, upd_aL, aV_ap, upd_aV, upd_aVm]
      rw [if_neg (by omega)]
      by_cases e : ke k = x
      · rw [if_pos e]; exact ⟨k, by omega, rfl⟩
      · rw [if_neg e]
        refine ih (k + 1) p (by omega) (by omega) ⟨i, ?_, i2, i3⟩
        by_cases e2 : i = k
        · rw [e2] at i3; exact absurd i3 e
        · omega
  obtain ⟨i, i1, i2⟩ := hx
  exact key fo 0 1000000 (by omega) (by omega) ⟨i, Nat.zero_le _, i1, i2⟩
theorem qk_284 {n nd R K fo : Nat} {tm bt cl go ke rg : Nat → Nat} {vtk : Nat → Int32} {vth vta vch vno vsp : Int32} {v1 v2 v3 v4 v5 v6 v7 : Nat → Int32} {mk : Nat → Nat} (hfo : fo ≤ 100) : ∀ m k f (x3 : Int32), k + m = fo → m < f → ∃ o : O17, f_X5_classes_284 (nI n) (nI nd) (nI R) (nI K) (aI tm) (aI bt) (aI cl) vtk (aI go) f vth vta vch vno (nI fo) vsp v1 v2 v3 v4 v5 (aL ke) (aI rg) (aI mk) v6 v7 x3 (nI k) = some o ∧ po17 vth vta o := by
  intro m
  induction m with
  | zero =>
    intro k f x3 hk hf
    obtain ⟨p, rfl, hp⟩ := qt_fuel hf
    have e : k = fo := by omega
    subst e
    simp only [f_X5_classes_284]
    rw [if_pos (Int32.le_refl _)]
    exact ⟨_, rfl, rfl, rfl⟩
  | succ m ih =>
    intro k f x3 hk hf
    obtain ⟨p, rfl, hp⟩ := qt_fuel hf
    simp only [f_X5_classes_284, f_X5_classes_311]
    simp (disch := omega) only [qz_i0, qz_i1, qz_i2, qz_i3, qz_i4, qz_i5, qz_i6, qz_i7, qz_i8, qz_i9, qz_i24, qz_i27, qz_i31, qz_i60, qz_i61, qz_i100, qz_i101, qz_i50000, qz_i100000, ql_i0, ql_i1, ql_i63, ql_m1, qz_m1, qz_le, qz_lt, qz_add, qz_mul, qz_sub, qz_an, qz_ix, qz_and, qz_or, qz_shl, qz_shr, qz_andn, ql_eq, ql_and, ql_or, ql_shl, ql_shr, ql_andn, ql_of, qz_k31, qz_k63, qz_bit, qz_b0, qz_b1, ql_b0, ql_b1, lg_0, qz_gd, Nat.one_shiftLeft, aI_ap, aL_ap, upd_aI, upd_aL, aV_ap, upd_aV, upd_aVm]
    rw [if_neg (by omega)]
    by_cases e : nI (mk k) = nI k
    · rw [if_pos e]; exact ih (k + 1) p _ (by omega) (by omega)
    · rw [if_neg e]; exact ih (k + 1) p _ (by omega) (by omega)
def mkOk (fo : Nat) (mk : Nat → Nat) : Prop := ∀ i, i < fo → mk i < 100
theorem qk_step {fo : Nat} {mk : Nat → Nat} {j k v : Nat} {x y : Bool} (hm : mkOk fo mk) (hj : j < fo) (hk : k < fo) (h1 : v ≤ mk j) (h2 : v ≤ mk k) (hy : y = true → x = true ∨ mk j ≠ v ∨ mk k ≠ v) :
    mkOk fo (updN (updN mk j v) k v) ∧ ssum (updN (updN mk j v) k v) fo + y.toNat ≤ ssum mk fo + x.toNat := by
  have a1 := ssum_upd (f := mk) (a := j) (v := v) fo hj
  have a2 := ssum_upd (f := updN mk j v) (a := k) (v := v) fo hk
  have b1 := hm j hj
  have b2 := hm k hk
  have hx : x.toNat ≤ 1 := Bool.toNat_le x
  refine ⟨?_, ?_⟩
  · intro i hi
    by_cases e : i = k
    · rw [e, updN_s]; omega
    · rw [updN_n e]
      by_cases e2 : i = j
      · rw [e2, updN_s]; omega
      · rw [updN_n e2]; exact hm i hi
  · have c : updN mk j v k = if k = j then v else mk k := rfl
    cases y
    · have : (false : Bool).toNat = 0 := rfl
      by_cases e : k = j
      · rw [c, if_pos e] at a2; omega
      · rw [c, if_neg e] at a2; omega
    · have t1 : (true : Bool).toNat = 1 := rfl
      rcases hy rfl with h | h | h
      · rw [h]
        by_cases e : k = j
        · rw [c, if_pos e] at a2; omega
        · rw [c, if_neg e] at a2; omega
      · by_cases e : k = j
        · rw [c, if_pos e] at a2; omega
        · rw [c, if_neg e] at a2; omega
      · by_cases e : k = j
        · subst e; rw [c, if_pos rfl] at a2; omega
        · rw [c, if_neg e] at a2; omega
theorem qk_117 {n nd R K fo : Nat} {tm bt cl go ke rg : Nat → Nat} {vtk : Nat → Int32} {vth vta vch vno vsp : Int32} {v1 v2 v3 v4 v5 v6 v7 : Nat → Int32} {mk : Nat → Nat} {K83 : Int32 → Int32 → Int32 → Int32 → Int32 → Int32 → (Nat → Int32) → (Nat → Int32) → (Nat → Int32) → (Nat → Int32) → (Nat → Int32) → (Nat → Int64) → (Nat → Int32) → (Nat → Int32) → (Nat → Int32) → (Nat → Int32) → Int32 → Option O17} {K91 : Int32 → Int32 → Int32 → Int32 → Int32 → Int32 → (Nat → Int32) → (Nat → Int32) → (Nat → Int32) → (Nat → Int32) → (Nat → Int32) → (Nat → Int64) → (Nat → Int32) → (Nat → Int32) → (Nat → Int32) → (Nat → Int32) → Int32 → Int32 → Option O17} {K102 : Int32 → Int32 → Int32 → Int32 → Int32 → Int32 → (Nat → Int32) → (Nat → Int32) → (Nat → Int32) → (Nat → Int32) → (Nat → Int32) → (Nat → Int64) → (Nat → Int32) → (Nat → Int32) → (Nat → Int32) → (Nat → Int32) → Int32 → Int32 → Int32 → Option O17} {kk t : Nat} {x : Bool} (hR : R ≤ 60) (hfo : fo ≤ 100) (hke : ∀ i, i < fo → ke i < 2 ^ 60) (hk : kk < fo) (ht : t < 8) (hrg : ∀ r, r < R → rg (60 * t + r) < 60) (hw : ∃ i, i < fo ∧ ke i = imS (fun r => rg (60 * t + r)) (ke kk) R) (hm : mkOk fo mk)
    (hK : ∀ mk' (y : Bool), mkOk fo mk' → ssum mk' fo + y.toNat ≤ ssum mk fo + x.toNat → ∃ o : O17, K102 vth vta vch vno (nI fo) vsp v1 v2 v3 v4 v5 (aL ke) (aI rg) (aI mk') v6 v7 (nI y.toNat) (nI kk) (nI (t + 1)) = some o ∧ po17 vth vta o) : ∀ m k f, k + m = R → m < f →
    ∃ o : O17, f_X5_classes_117 (nI n) (nI nd) (nI R) (nI K) (aI tm) (aI bt) (aI cl) vtk (aI go) K83 K91 K102 f vth vta vch vno (nI fo) vsp v1 v2 v3 v4 v5 (aL ke) (aI rg) (aI mk) v6 v7 (nI x.toNat) (nI kk) (nI t) (lN (imS (fun r => rg (60 * t + r)) (ke kk) k)) (nI k) = some o ∧ po17 vth vta o := by
  have hkk := hke kk hk
  intro m
  induction m with
  | zero =>
    intro k f e hf
    obtain ⟨p, rfl, hp⟩ := qt_fuel hf
    have e : k = R := by omega
    subst e
    obtain ⟨j, j1, j2⟩ := qk_wayOf hfo hke hw
    have m1 := hm j j1
    have m2 := hm kk hk
    simp only [f_X5_classes_117, f_X5_classes_212, f_X5_classes_241, f_X5_classes_246]
    rw [if_pos (Int32.le_refl _), j2, Option.bind_some]
    simp (disch := omega) only [qz_i0, qz_i1, qz_i2, qz_i3, qz_i4, qz_i5, qz_i6, qz_i7, qz_i8, qz_i9, qz_i24, qz_i27, qz_i31, qz_i60, qz_i61, qz_i100, qz_i101, qz_i50000, qz_i100000, ql_i0, ql_i1, ql_i63, ql_m1, qz_m1, qz_le, qz_lt, qz_eq, qz_add, qz_mul, qz_sub, qz_an, qz_ix, qz_and, qz_or, qz_shl, qz_shr, qz_andn, ql_eq, ql_and, ql_or, ql_shl, ql_shr, ql_andn, ql_of, qz_k31, qz_k63, qz_bit, qz_b0, qz_b1, ql_b0, ql_b1, lg_0, qz_gd, Nat.one_shiftLeft, aI_ap, aL_ap, upd_aI, upd_aL, aV_ap, upd_aV, upd_aVm]
    by_cases h1 : mk kk ≤ mk j
    · rw [if_pos h1]
      cases hx : x
      · rw [hx] at hK
        rw [if_pos rfl]
        by_cases h2 : mk j = mk kk
        · rw [if_pos h2, if_pos trivial]
          have := qk_step (x := false) (y := false) hm j1 hk h1 (Nat.le_refl _) (fun z => by cases z)
          exact hK _ false this.1 this.2
        · rw [if_neg h2]
          have := qk_step (x := false) (y := true) hm j1 hk h1 (Nat.le_refl _) (fun _ => Or.inr (Or.inl h2))
          exact hK _ true this.1 this.2
      · rw [hx] at hK
        rw [if_neg (by decide)]
        have := qk_step (x := true) (y := true) hm j1 hk h1 (Nat.le_refl _) (fun _ => Or.inl rfl)
        exact hK _ true this.1 this.2
    · rw [if_neg h1]
      cases hx : x
      · rw [hx] at hK
        rw [if_pos rfl, if_pos trivial]
        by_cases h2 : mk kk = mk j
        · rw [if_pos h2]
          have := qk_step (x := false) (y := false) (v := mk j) hm j1 hk (Nat.le_refl _) (by omega) (fun z => by cases z)
          exact hK _ false this.1 this.2
        · rw [if_neg h2]
          have := qk_step (x := false) (y := true) (v := mk j) hm j1 hk (Nat.le_refl _) (by omega) (fun _ => Or.inr (Or.inr h2))
          exact hK _ true this.1 this.2
      · rw [hx] at hK
        rw [if_neg (by decide)]
        have := qk_step (x := true) (y := true) (v := mk j) hm j1 hk (Nat.le_refl _) (by omega) (fun _ => Or.inl rfl)
        exact hK _ true this.1 this.2
  | succ m ih =>
    intro k f e hf
    obtain ⟨p, rfl, hp⟩ := qt_fuel hf
    have hstep := ih (k + 1) p (by omega) (by omega)
    have hr := hrg k (by omega)
    rw [imS] at hstep
    simp only [f_X5_classes_117, f_X5_classes_163]
    simp (disch := omega) only [qz_i0, qz_i1, qz_i2, qz_i3, qz_i4, qz_i5, qz_i6, qz_i7, qz_i8, qz_i9, qz_i24, qz_i27, qz_i31, qz_i60, qz_i61, qz_i100, qz_i101, qz_i50000, qz_i100000, ql_i0, ql_i1, ql_i63, ql_m1, qz_m1, qz_le, qz_lt, qz_eq, qz_add, qz_mul, qz_sub, qz_an, qz_ix, qz_and, qz_or, qz_shl, qz_shr, qz_andn, ql_eq, ql_and, ql_or, ql_shl, ql_shr, ql_andn, ql_of, qz_k31, qz_k63, qz_bit, qz_b0, qz_b1, ql_b0, ql_b1, lg_0, qz_gd, Nat.one_shiftLeft, aI_ap, aL_ap, upd_aI, upd_aL, aV_ap, upd_aV, upd_aVm]
    rw [if_neg (by omega)]
    cases hb : (ke kk).testBit k
    · rw [if_neg (by decide)]
      rw [hb, if_neg (by decide)] at hstep
      exact hstep
    · rw [if_pos rfl]
      rw [hb, if_pos rfl] at hstep
      exact hstep
theorem qk_102 {n nd R K fo : Nat} {tm bt cl go ke rg : Nat → Nat} {vtk : Nat → Int32} {vth vta vch vno vsp : Int32} {v1 v2 v3 v4 v5 v6 v7 : Nat → Int32} {K83 : Int32 → Int32 → Int32 → Int32 → Int32 → Int32 → (Nat → Int32) → (Nat → Int32) → (Nat → Int32) → (Nat → Int32) → (Nat → Int32) → (Nat → Int64) → (Nat → Int32) → (Nat → Int32) → (Nat → Int32) → (Nat → Int32) → Int32 → Option O17} {K91 : Int32 → Int32 → Int32 → Int32 → Int32 → Int32 → (Nat → Int32) → (Nat → Int32) → (Nat → Int32) → (Nat → Int32) → (Nat → Int32) → (Nat → Int64) → (Nat → Int32) → (Nat → Int32) → (Nat → Int32) → (Nat → Int32) → Int32 → Int32 → Option O17} {kk S : Nat} (hR : R ≤ 60) (hK8 : K ≤ 8) (hfo : fo ≤ 100) (hke : ∀ i, i < fo → ke i < 2 ^ 60) (hk : kk < fo) (hrg : ∀ t, t < K → ∀ r, r < R → rg (60 * t + r) < 60) (hw : ∀ t, t < K → ∃ i, i < fo ∧ ke i = imS (fun r => rg (60 * t + r)) (ke kk) R)
    (hK : ∀ mk' (y : Bool), mkOk fo mk' → ssum mk' fo + y.toNat ≤ S → ∃ o : O17, K91 vth vta vch vno (nI fo) vsp v1 v2 v3 v4 v5 (aL ke) (aI rg) (aI mk') v6 v7 (nI y.toNat) (nI (kk + 1)) = some o ∧ po17 vth vta o) : ∀ m t f mk (x : Bool), t + m = K → m < f → mkOk fo mk → ssum mk fo + x.toNat ≤ S →
    ∃ o : O17, f_X5_classes_102 (nI n) (nI nd) (nI R) (nI K) (aI tm) (aI bt) (aI cl) vtk (aI go) K83 K91 f vth vta vch vno (nI fo) vsp v1 v2 v3 v4 v5 (aL ke) (aI rg) (aI mk) v6 v7 (nI x.toNat) (nI kk) (nI t) = some o ∧ po17 vth vta o := by
  intro m
  induction m with
  | zero =>
    intro t f mk x e hf hm hs
    obtain ⟨p, rfl, hp⟩ := qt_fuel hf
    have e : t = K := by omega
    subst e
    simp only [f_X5_classes_102]
    rw [if_pos (Int32.le_refl _), qz_i1, qz_add]
    exact hK mk x hm hs
  | succ m ih =>
    intro t f mk x e hf hm hs
    obtain ⟨p, rfl, hp⟩ := qt_fuel hf
    simp only [f_X5_classes_102]
    have hnk : ¬ nI K ≤ nI t := by rw [qz_le (by omega) (by omega)]; omega
    rw [if_neg hnk, ql_i0, qz_i0]
    refine qk_117 hR hfo hke hk (by omega) (hrg t (by omega)) (hw t (by omega)) hm (fun mk' y h1 h2 => ?_) R 0 1000000 (by omega) (by omega)
    exact ih (t + 1) p mk' y (by omega) (by omega) h1 (by omega)
theorem qk_91 {n nd R K fo : Nat} {tm bt cl go ke rg : Nat → Nat} {vtk : Nat → Int32} {vth vta vch vno vsp : Int32} {v1 v2 v3 v4 v5 v6 v7 : Nat → Int32} {K83 : Int32 → Int32 → Int32 → Int32 → Int32 → Int32 → (Nat → Int32) → (Nat → Int32) → (Nat → Int32) → (Nat → Int32) → (Nat → Int32) → (Nat → Int64) → (Nat → Int32) → (Nat → Int32) → (Nat → Int32) → (Nat → Int32) → Int32 → Option O17} {S : Nat} (hR : R ≤ 60) (hK8 : K ≤ 8) (hfo : fo ≤ 100) (hke : ∀ i, i < fo → ke i < 2 ^ 60) (hrg : ∀ t, t < K → ∀ r, r < R → rg (60 * t + r) < 60) (hw : ∀ kk, kk < fo → ∀ t, t < K → ∃ i, i < fo ∧ ke i = imS (fun r => rg (60 * t + r)) (ke kk) R)
    (hK : ∀ mk' (y : Bool), mkOk fo mk' → ssum mk' fo + y.toNat ≤ S → ∃ o : O17, K83 vth vta vch vno (nI fo) vsp v1 v2 v3 v4 v5 (aL ke) (aI rg) (aI mk') v6 v7 (nI y.toNat) = some o ∧ po17 vth vta o) : ∀ m k f mk (x : Bool), k + m = fo → m < f → mkOk fo mk → ssum mk fo + x.toNat ≤ S →
    ∃ o : O17, f_X5_classes_91 (nI n) (nI nd) (nI R) (nI K) (aI tm) (aI bt) (aI cl) vtk (aI go) K83 f vth vta vch vno (nI fo) vsp v1 v2 v3 v4 v5 (aL ke) (aI rg) (aI mk) v6 v7 (nI x.toNat) (nI k) = some o ∧ po17 vth vta o := by
  intro m
  induction m with
  | zero =>
    intro k f mk x e hf hm hs
    obtain ⟨p, rfl, hp⟩ := qt_fuel hf
    have e : k = fo := by omega
    subst e
    simp only [f_X5_classes_91]
    rw [if_pos (Int32.le_refl _)]
    exact hK mk x hm hs
  | succ m ih =>
    intro k f mk x e hf hm hs
    obtain ⟨p, rfl, hp⟩ := qt_fuel hf
    simp only [f_X5_classes_91]
    have hnk : ¬ nI fo ≤ nI k := by rw [qz_le (by omega) (by omega)]; omega
    rw [if_neg hnk, qz_i0]
    refine qk_102 (S := S) hR hK8 hfo hke (by omega) hrg (hw k (by omega)) (fun mk' y h1 h2 => ?_) K 0 1000000 mk x (by omega) (by omega) hm hs
    exact ih (k + 1) p mk' y (by omega) (by omega) h1 h2
theorem qk_83 {n nd R K fo : Nat} {tm bt cl go ke rg : Nat → Nat} {vtk : Nat → Int32} {vth vta vch vno vsp : Int32} {v1 v2 v3 v4 v5 v6 v7 : Nat → Int32} (hR : R ≤ 60) (hK8 : K ≤ 8) (hfo : fo ≤ 100) (hke : ∀ i, i < fo → ke i < 2 ^ 60) (hrg : ∀ t, t < K → ∀ r, r < R → rg (60 * t + r) < 60) (hw : ∀ kk, kk < fo → ∀ t, t < K → ∃ i, i < fo ∧ ke i = imS (fun r => rg (60 * t + r)) (ke kk) R) : ∀ S f mk (x : Bool), S < f → mkOk fo mk → ssum mk fo + x.toNat ≤ S →
    ∃ o : O17, f_X5_classes_83 (nI n) (nI nd) (nI R) (nI K) (aI tm) (aI bt) (aI cl) vtk (aI go) f vth vta vch vno (nI fo) vsp v1 v2 v3 v4 v5 (aL ke) (aI rg) (aI mk) v6 v7 (nI x.toNat) = some o ∧ po17 vth vta o := by
  intro S
  induction S with
  | zero =>
    intro f mk x hf hm hs
    obtain ⟨p, rfl, hp⟩ := qt_fuel hf
    have hx : x = false := by
      cases x
      · rfl
      · have : (true : Bool).toNat = 1 := rfl
        omega
    subst hx
    simp only [f_X5_classes_83]
    rw [if_pos (by decide), qz_i0]
    exact qk_284 hfo fo 0 1000000 _ (by omega) (by omega)
  | succ S ih =>
    intro f mk x hf hm hs
    obtain ⟨p, rfl, hp⟩ := qt_fuel hf
    simp only [f_X5_classes_83]
    cases x
    · rw [if_pos (by decide), qz_i0]
      exact qk_284 hfo fo 0 1000000 _ (by omega) (by omega)
    · have t1 : (true : Bool).toNat = 1 := rfl
      rw [if_neg (by decide), qz_i0]
      exact qk_91 (S := S) hR hK8 hfo hke hrg hw (fun mk' y h1 h2 => ih p mk' y (by omega) h1 h2) fo 0 1000000 mk false (by omega) (by omega) hm (by have : (false : Bool).toNat = 0 := rfl; omega)
theorem qk_60 {n nd R K fo : Nat} {tm bt cl go ke rg : Nat → Nat} {vtk : Nat → Int32} {vth vta vch vno vsp : Int32} {v1 v2 v3 v4 v5 v6 v7 : Nat → Int32} (hR : R ≤ 60) (hK8 : K ≤ 8) (hfo : fo ≤ 100) (hke : ∀ i, i < fo → ke i < 2 ^ 60) (hrg : ∀ t, t < K → ∀ r, r < R → rg (60 * t + r) < 60) (hw : ∀ kk, kk < fo → ∀ t, t < K → ∃ i, i < fo ∧ ke i = imS (fun r => rg (60 * t + r)) (ke kk) R) : ∀ m k f mk, k + m = fo → m < f → (∀ i, i < k → mk i < 100) →
    ∃ o : O17, f_X5_classes_60 (nI n) (nI nd) (nI R) (nI K) (aI tm) (aI bt) (aI cl) vtk (aI go) f vth vta vch vno (nI fo) vsp v1 v2 v3 v4 v5 (aL ke) (aI rg) (aI mk) v6 v7 (nI k) = some o ∧ po17 vth vta o := by
  intro m
  induction m with
  | zero =>
    intro k f mk e hf hm
    obtain ⟨p, rfl, hp⟩ := qt_fuel hf
    have e : k = fo := by omega
    subst e
    have hs := ssum_le (f := mk) k hm
    simp only [f_X5_classes_60]
    rw [if_pos (Int32.le_refl _), qz_i1]
    exact qk_83 hR hK8 hfo hke hrg hw 10001 1000000 mk true (by omega) hm (by have : (true : Bool).toNat = 1 := rfl; omega)
  | succ m ih =>
    intro k f mk e hf hm
    obtain ⟨p, rfl, hp⟩ := qt_fuel hf
    simp only [f_X5_classes_60]
    simp (disch := omega) only [qz_i0, qz_i1, qz_i2, qz_i3, qz_i4, qz_i5, qz_i6, qz_i7, qz_i8, qz_i9, qz_i24, qz_i27, qz_i31, qz_i60, qz_i61, qz_i100, qz_i101, qz_i50000, qz_i100000, ql_i0, ql_i1, ql_i63, ql_m1, qz_m1, qz_le, qz_lt, qz_eq, qz_add, qz_mul, qz_sub, qz_an, qz_ix, qz_and, qz_or, qz_shl, qz_shr, qz_andn, ql_eq, ql_and, ql_or, ql_shl, ql_shr, ql_andn, ql_of, qz_k31, qz_k63, qz_bit, qz_b0, qz_b1, ql_b0, ql_b1, lg_0, qz_gd, Nat.one_shiftLeft, aI_ap, aL_ap, upd_aI, upd_aL, aV_ap, upd_aV, upd_aVm]
    rw [if_neg (by omega)]
    refine ih (k + 1) p _ (by omega) (by omega) (fun i hi => ?_)
    by_cases e : i = k
    · rw [e, updN_s]; omega
    · rw [updN_n e]; exact hm i (by omega)
theorem qk_classes {n nd R T K : Nat} {tm bt cl tk go : Nat → Nat} {vth vta vch vno vfo vsp : Int32} {v1 v2 v3 v4 v5 v6 v7 v8 v9 : Nat → Int32} {w : Nat → Int64} (hT : TB n nd R tm bt cl) (hK8 : K ≤ 8) (hg : ∀ t, t < K → goP n (fun c => go (24 * t + c))) :
    ∃ o : O17, f_X5_classes (nI n) (nI nd) (nI R) (nI K) (aI tm) (aI bt) (aI cl) (aI tk) (aI go) vth vta vch vno vfo vsp v1 v2 v3 v4 v5 w v6 v7 v8 v9 = some o ∧ po17 (nI 0) vta o := by
  have h60 := hT.2.2.2.1
  have hn := hT.2.1
  have hnd := hT.2.2.1
  have hg24 : ∀ t, t < K → ∀ c, c < n → go (24 * t + c) < 24 := fun t ht c hc => by
    have := goP_lt (hg t ht) hc
    omega
  obtain ⟨cc, rfl⟩ := aI_all v1
  obtain ⟨ic, rfl⟩ := aI_all v2
  obtain ⟨cm, rfl⟩ := aV_all v3
  obtain ⟨nx, rfl⟩ := aI_all v4
  obtain ⟨ba, rfl⟩ := aV_all v5
  obtain ⟨rg0, rfl⟩ := aI_all v6
  obtain ⟨mk, rfl⟩ := aI_all v7
  obtain ⟨cn, rfl⟩ := aI_all v8
  obtain ⟨co, rfl⟩ := aI_all v9
  obtain ⟨ke0, rfl⟩ := aL_all w
  obtain ⟨o, o1, rg, o2, o3⟩ := qj_turnsRows (rg := rg0) hT hK8 hg24
  unfold f_X5_classes
  rw [o1, Option.bind_some]
  rcases o3 with o3 | ⟨o3, o4, o5⟩
  · rw [o3, if_pos (by decide)]
    exact ⟨_, rfl, rfl, rfl⟩
  · rw [o3, if_neg (by decide), qz_i0, qz_i101]
    obtain ⟨u, u1, u2, u3, u4, u5⟩ := qy_search (T := 0) (tk := tk) (cc := cc) (ic := ic) (cm := cm) (nx := nx) (ba := ba) (cn := cn) (co := co) (w := ke0) (most := 101) (vch := vch) (vno := vno) (vfo := vfo) (vsp := vsp) hT (fun k hk => by omega) (by omega)
    have hrun := run_sem (n := n) (nd := nd) (R := R) (due := duF nd tm) (rows := roF R bt) (cols := bt) (cs := csF n nd R bt cl) (ch := fun _ => 0) (fr := fun _ => 0) (un := fun _ => 0) (uc := fun _ => 0) (ke := ke0) (start := TS tk 0) (most := 101) (tabF bt cl h60) hnd (by omega) (roF_lt bt h60) okS_0 (by rw [TS]; decide)
    have hS : srchA n nd R tm bt cl ke0 (TS tk 0) 101 = runA n nd (duF nd tm) (roF R bt) bt (csF n nd R bt cl) 101 100000 (begA n nd R (duF nd tm) (roF R bt) (csF n nd R bt cl) (fun _ => 0) (fun _ => 0) (fun _ => 0) (fun _ => 0) ke0 (TS tk 0)) := rfl
    rw [← hS] at hrun
    generalize srchA n nd R tm bt cl ke0 (TS tk 0) 101 = s at u2 u3 u4 u5 hrun
    obtain ⟨no, fo, ch, fr, un, uc, ke, lv⟩ := s
    obtain ⟨c1, c2, c3, c4⟩ := u
    obtain ⟨c5, c6⟩ := c4
    simp only at u2 u3 u4 u5
    obtain ⟨r1, r2, r3, r4, r5⟩ := hrun
    rw [u1, Option.bind_some]
    simp only
    rw [u3, u4, u5]
    have hb : no ≤ 50000 := r2.1
    have hbf : fo ≤ no := r2.2.1
    by_cases hsp : no = 50000
    · unfold spI
      rw [if_pos hsp, if_neg (by decide)]
      unfold f_X5_classes_55
      exact ⟨_, rfl, rfl, rfl⟩
    · have hsp0 : spI no = nI 0 := if_neg hsp
      rw [hsp0, if_pos rfl, qz_i100]
      by_cases hf : fo ≤ 100
      · have hle : nI fo ≤ nI 100 := by rw [qz_le (by omega) (by omega)]; exact hf
        rw [if_pos hle]
        have hlv : lv = 0 := by
          rcases r1 with h | h | h
          · exact h
          · have : 50000 ≤ no := h
            omega
          · have : 101 ≤ fo := h
            omega
        subst hlv
        have hway : ∀ i, i < fo → isW nd R (duF nd tm) (roF R bt) bt (csF n nd R bt cl) (ke i) := fun i hi => r4 i hi (by omega)
        have hlt : ∀ i, i < fo → ke i < 2 ^ 60 := fun i hi => Nat.lt_pow_two_of_testBit _ (fun b hb2 => by
          cases q : (ke i).testBit b
          · rfl
          · have := ((hway i hi).1.1 b q).1
            omega)
        have hall : ∀ W, isW nd R (duF nd tm) (roF R bt) bt (csF n nd R bt cl) W → ∃ i, i < fo ∧ ke i = W := by
          intro W hW
          rcases r5 (by show no < 50000; omega) hf W hW (fun i hi => by rw [TS, Nat.zero_testBit] at hi; cases hi) with h | ⟨j, j1, _⟩
          · exact h
          · have : j < 0 := j1
            omega
        rw [o2]
        refine qk_60 h60 hK8 hf hlt (fun t ht r hr => by have := ((o5 t ht).2 r hr).1; omega) (fun kk hkk t ht => ?_) fo 0 1000000 mk (by omega) (by omega) (fun i hi => by omega)
        exact hall _ (way_im hT (hg t ht) (o5 t ht).1 (fun r hr => (o5 t ht).2 r hr) o4 (hway kk hkk))
      · have hle : ¬ nI fo ≤ nI 100 := by rw [qz_le (by omega) (by omega)]; exact hf
        rw [if_neg hle]
        unfold f_X5_classes_55
        exact ⟨_, rfl, rfl, rfl⟩
