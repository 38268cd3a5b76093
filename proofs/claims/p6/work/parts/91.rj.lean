-- a new object on both sides
def z0 : Nat → Nat := fun _ => 0
def t0 : Nat → Nat := fun c => if c < 24 then 1 else 0
theorem rj_n (x1 : Int32) : ∃ n, 1 ≤ n ∧ n ≤ 24 ∧ (if (1 : Int32) < (if x1 < (24 : Int32) then x1 else (24 : Int32)) then (if x1 < (24 : Int32) then x1 else (24 : Int32)) else (1 : Int32)) = nI n ∧ (if (1 : Int32) ≤ x1 then (if x1 ≤ (24 : Int32) then x1 else (24 : Int32)) else (1 : Int32)) = nI n := by
  rcases pk_ix x1 (n := 25) (by decide) with q | q | ⟨j, j1, j2⟩
  · refine ⟨1, by decide, by decide, ?_, ?_⟩
    · rw [if_pos (Int32.lt_trans q (by decide)), if_neg (fun z => absurd (Int32.lt_trans z q) (by decide))]; rfl
    · rw [if_neg (fun z => absurd (Int32.lt_of_le_of_lt z q) (by decide))]; rfl
  · have h1 : ¬ x1 < (24 : Int32) := fun z => absurd (Int32.lt_of_le_of_lt q z) (by decide)
    have h2 : ¬ x1 ≤ (24 : Int32) := fun z => absurd (Int32.le_trans q z) (by decide)
    refine ⟨24, by decide, by decide, ?_, ?_⟩
    · rw [if_neg h1, if_pos (by decide)]; rfl
    · rw [if_pos (Int32.le_trans (by decide) q), if_neg h2]; rfl
  · subst j2
    by_cases e0 : j = 0
    · subst e0; exact ⟨1, by decide, by decide, by decide, by decide⟩
    · refine ⟨j, by omega, by omega, ?_, ?_⟩
      · by_cases e1 : j = 24
        · subst e1; decide
        · have a1 : nI j < (24 : Int32) := by rw [qz_i24, qz_lt (by omega) (by omega)]; omega
          rw [if_pos a1]
          by_cases e2 : j = 1
          · subst e2; decide
          · rw [if_pos (show (1 : Int32) < nI j by rw [qz_i1, qz_lt (by omega) (by omega)]; omega)]
      · rw [if_pos (show (1 : Int32) ≤ nI j by rw [qz_i1, qz_le (by omega) (by omega)]; omega), if_pos (show nI j ≤ (24 : Int32) by rw [qz_i24, qz_le (by omega) (by omega)]; omega)]
theorem rj_o (x2 : Int32) (n : Nat) (hn : n ≤ 24) : ∃ q, q ≤ n ∧ (if (0 : Int32) < (if x2 < nI n then x2 else nI n) then (if x2 < nI n then x2 else nI n) else (0 : Int32)) = nI q ∧ ((0 ≤ x2 ∧ x2 ≤ nI n ∧ x2 = nI q) ∨ (0 ≤ x2 ∧ ¬ x2 ≤ nI n ∧ nI n = nI q) ∨ (¬ 0 ≤ x2 ∧ (0 : Int32) = nI q)) := by
  rcases pk_ix x2 (n := n + 1) (by omega) with q | q | ⟨j, j1, j2⟩
  · refine ⟨0, by omega, ?_, Or.inr (Or.inr ⟨fun z => absurd (Int32.lt_of_le_of_lt z q) Int32.lt_irrefl, rfl⟩)⟩
    by_cases e : x2 < nI n
    · rw [if_pos e, if_neg (fun z => absurd (Int32.lt_trans z q) Int32.lt_irrefl)]; rfl
    · exfalso
      apply e
      exact Int32.lt_of_lt_of_le q (by rw [qz_i0, qz_le (by omega) (by omega)]; omega)
  · have h1 : ¬ x2 < nI n := fun z => by
      have := Int32.lt_of_le_of_lt q z
      rw [qz_lt (by omega) (by omega)] at this
      omega
    have h2 : ¬ x2 ≤ nI n := fun z => by
      have := Int32.le_trans q z
      rw [qz_le (by omega) (by omega)] at this
      omega
    have h3 : (0 : Int32) ≤ x2 := Int32.le_trans (show (0 : Int32) ≤ nI (n + 1) by rw [qz_i0, qz_le (by omega) (by omega)]; omega) q
    refine ⟨n, Nat.le_refl _, ?_, Or.inr (Or.inl ⟨h3, h2, rfl⟩)⟩
    rw [if_neg h1]
    by_cases e : n = 0
    · subst e; decide
    · rw [if_pos (show (0 : Int32) < nI n by rw [qz_i0, qz_lt (by omega) (by omega)]; omega)]
  · subst j2
    refine ⟨j, by omega, ?_, Or.inl ⟨by rw [qz_i0, qz_le (by omega) (by omega)]; omega, by rw [qz_le (by omega) (by omega)]; omega, rfl⟩⟩
    by_cases e : j = n
    · subst e
      rw [if_neg Int32.lt_irrefl]
      by_cases e2 : j = 0
      · subst e2; decide
      · rw [if_pos (show (0 : Int32) < nI j by rw [qz_i0, qz_lt (by omega) (by omega)]; omega)]
    · rw [if_pos (show nI j < nI n by rw [qz_lt (by omega) (by omega)]; omega)]
      by_cases e2 : j = 0
      · subst e2; decide
      · rw [if_pos (show (0 : Int32) < nI j by rw [qz_i0, qz_lt (by omega) (by omega)]; omega)]
theorem rj_due {nd : Nat} {y1 y2 y3 : Int32} {v1 v2 : Nat → Int32} {v3 v4 : Nat → Int64} (h : nd ≤ 24) : ∀ m k g, k + m = nd → m < g → f_X2_init_57 g y1 y2 y3 v1 v2 v3 v4 (aI (mix (fun _ => true) z0 (fun _ => 1) k)) (nI nd) (nI k) = some (y1, y2, y3, v1, v2, v3, v4, aI (mix (fun _ => true) z0 (fun _ => 1) nd)) := by
  intro m
  induction m with
  | zero =>
    intro k g hk hg
    obtain ⟨p, rfl, hp⟩ := qt_fuel hg
    have e : k = nd := by omega
    subst e
    simp only [f_X2_init_57]
    rw [if_pos (Int32.le_refl _)]
  | succ m ih =>
    intro k g hk hg
    obtain ⟨p, rfl, hp⟩ := qt_fuel hg
    have hstep := ih (k + 1) p (by omega) (by omega)
    rw [← mix_s rfl] at hstep
    simp only [f_X2_init_57]
    simp (disch := omega) only [qz_i0, qz_i1, qz_i2, qz_i3, qz_i4, qz_i5, qz_i6, qz_i7, qz_i8, qz_i9, qz_i24, qz_i27, qz_i31, qz_i60, qz_i61, qz_i100, qz_i101, qz_i50000, qz_i100000, ql_i0, ql_i1, ql_i63, ql_m1, qz_m1, qz_le, qz_lt, qz_eq, qz_add, qz_mul, qz_sub, qz_an, qz_ix, qz_and, qz_or, qz_shl, qz_shr, qz_andn, ql_eq, ql_and, ql_or, ql_shl, ql_shr, ql_andn, ql_of, qz_k31, qz_k63, qz_bit, qz_b0, qz_b1, ql_b0, ql_b1, lg_0, qz_gd, Nat.one_shiftLeft, aI_ap, aL_ap, upd_aI, upd_aL, aV_ap, upd_aV, upd_aVm]
    rw [if_neg (by omega)]
    exact hstep
theorem rj_times {b1 b2 b3 b4 b5 b6 b7 b8 b9 b10 b11 b12 b13 b14 b15 : Int32} {c2 c3 c4 c5 c6 c7 c8 c9 c10 c11 : Nat → Int32} {d1 d2 : Nat → Int64} {e1 e2 e3 e4 e5 : Nat → Int32} : ∀ m k g, k + m = 24 → m < g →
    f_X5_init_211 g b1 b2 b3 b4 b5 b6 b7 b8 b9 b10 b11 b12 b13 b14 b15 (aI (mix (fun _ => true) z0 (fun _ => 1) k)) c2 c3 c4 c5 c6 c7 c8 c9 c10 c11 d1 d2 e1 e2 e3 e4 e5 (nI k) = some (b1, b2, b3, b4, b5, b6, b7, b8, b9, b10, b11, b12, b13, b14, b15, aI (mix (fun _ => true) z0 (fun _ => 1) 24), c2, c3, c4, c5, c6, c7, c8, c9, c10, c11, d1, d2, e1, e2, e3, e4, e5) := by
  intro m
  induction m with
  | zero =>
    intro k g hk hg
    obtain ⟨p, rfl, hp⟩ := qt_fuel hg
    have e : k = 24 := by omega
    subst e
    simp only [f_X5_init_211]
    rw [qz_i24, if_pos (Int32.le_refl _)]
  | succ m ih =>
    intro k g hk hg
    obtain ⟨p, rfl, hp⟩ := qt_fuel hg
    have hstep := ih (k + 1) p (by omega) (by omega)
    rw [← mix_s rfl] at hstep
    simp only [f_X5_init_211]
    simp (disch := omega) only [qz_i0, qz_i1, qz_i2, qz_i3, qz_i4, qz_i5, qz_i6, qz_i7, qz_i8, qz_i9, qz_i24, qz_i27, qz_i31, qz_i60, qz_i61, qz_i100, qz_i101, qz_i50000, qz_i100000, ql_i0, ql_i1, ql_i63, ql_m1, qz_m1, qz_le, qz_lt, qz_eq, qz_add, qz_mul, qz_sub, qz_an, qz_ix, qz_and, qz_or, qz_shl, qz_shr, qz_andn, ql_eq, ql_and, ql_or, ql_shl, ql_shr, ql_andn, ql_of, qz_k31, qz_k63, qz_bit, qz_b0, qz_b1, ql_b0, ql_b1, lg_0, qz_gd, Nat.one_shiftLeft, aI_ap, aL_ap, upd_aI, upd_aL, aV_ap, upd_aV, upd_aVm]
    rw [if_neg (by omega)]
    exact hstep
theorem rj_mix (k : Nat) (h : k ≤ 24) : mix (fun _ => true) z0 (fun _ => 1) k = duF k t0 := by
  funext c
  unfold mix duF t0 z0
  by_cases e : c < k
  · rw [if_pos ⟨e, rfl⟩, if_pos e, if_pos (by omega)]
  · rw [if_neg (fun q => e q.1), if_neg e]
theorem rj_24 : mix (fun _ => true) z0 (fun _ => 1) 24 = t0 := by
  funext c
  unfold mix t0 z0
  by_cases e : c < 24
  · rw [if_pos ⟨e, rfl⟩, if_pos e]
  · rw [if_neg (fun q => e q.1), if_neg e]
theorem rj_class (x1 x2 : Int32) (n q : Nat) (hn : n ≤ 24) (hq : q ≤ n) (h1 : (if (1 : Int32) < (if x1 < (24 : Int32) then x1 else (24 : Int32)) then (if x1 < (24 : Int32) then x1 else (24 : Int32)) else (1 : Int32)) = nI n) (h2 : (if (0 : Int32) < (if x2 < nI n then x2 else nI n) then (if x2 < nI n then x2 else nI n) else (0 : Int32)) = nI q) :
    f_X4_init x1 x2 = some (nI 0, lN 0, nI 0, aI z0, nI n, nI (n - q), nI 0, aI z0, aI z0, aL z0, aL z0, aI (duF (n - q) t0), nI 0, nI 0, nI 0, nI 0, nI 0, nI 0, aI z0, nI 0, aI z0, aI z0, aI z0, nI 0, nI 0, aL z0, aL z0, aL z0, aI z0, aL z0, nI 0, nI 0, aL z0, aL z0, aL z0, aI z0, aL z0) := by
  have hdue := rj_due (nd := n - q) (y1 := nI n) (y2 := nI (n - q)) (y3 := nI 0) (v1 := aI z0) (v2 := aI z0) (v3 := aL z0) (v4 := aL z0) (by omega) (n - q) 0 1000000 (by omega) (by omega)
  rw [mix_0, rj_mix _ (by omega)] at hdue
  unfold f_X4_init f_X2_init
  rw [h1, h2, qz_sub hq]
  have hdue' : f_X2_init_57 1000000 (nI n) (nI (n - q)) 0 (fun _ => 0) (fun _ => 0) (fun _ => 0) (fun _ => 0) (fun _ => 0) (nI (n - q)) (0 : Int32) = some (nI n, nI (n - q), nI 0, aI z0, aI z0, aL z0, aL z0, aI (duF (n - q) t0)) := hdue
  rw [hdue', Option.bind_some]
  rfl
theorem rj_ref (x1 x2 : Int32) (n q : Nat) (hn : n ≤ 24) (hq : q ≤ n) (h1 : (if (1 : Int32) ≤ x1 then (if x1 ≤ (24 : Int32) then x1 else (24 : Int32)) else (1 : Int32)) = nI n) (h2 : (0 ≤ x2 ∧ x2 ≤ nI n ∧ x2 = nI q) ∨ (0 ≤ x2 ∧ ¬ x2 ≤ nI n ∧ nI n = nI q) ∨ (¬ 0 ≤ x2 ∧ (0 : Int32) = nI q)) :
    f_X5_init x1 x2 = some (nI 0, nI n, nI (n - q), nI 0, nI 0, nI 0, nI 0, nI 0, nI 0, nI 0, nI 0, nI 0, nI 0, nI 0, nI 0, aI t0, aI z0, aI z0, aI z0, aI z0, aI z0, aI z0, aI z0, aI z0, aI z0, aI z0, aL z0, aL z0, aI z0, aI z0, aI z0, aI z0, aI z0) := by
  have h173 : f_X5_init_173 0 0 0 0 0 0 0 0 0 0 0 0 0 0 0 (fun _ => 0) (fun _ => 0) (fun _ => 0) (fun _ => 0) (fun _ => 0) (fun _ => 0) (fun _ => 0) (fun _ => 0) (fun _ => 0) (fun _ => 0) (fun _ => 0) (fun _ => 0) (fun _ => 0) (fun _ => 0) (fun _ => 0) (fun _ => 0) (fun _ => 0) (fun _ => 0) x2 (nI n) = some (nI 0, nI n, nI (n - q), nI 0, nI 0, nI 0, nI 0, nI 0, nI 0, nI 0, nI 0, nI 0, nI 0, nI 0, nI 0, aI t0, aI z0, aI z0, aI z0, aI z0, aI z0, aI z0, aI z0, aI z0, aI z0, aI z0, aL z0, aL z0, aI z0, aI z0, aI z0, aI z0, aI z0) := by
    have h205 : ∀ y0 : Int32, y0 = nI q → f_X5_init_205 0 (nI n) 0 0 0 0 0 0 0 0 0 0 0 0 0 (fun _ => 0) (fun _ => 0) (fun _ => 0) (fun _ => 0) (fun _ => 0) (fun _ => 0) (fun _ => 0) (fun _ => 0) (fun _ => 0) (fun _ => 0) (fun _ => 0) (fun _ => 0) (fun _ => 0) (fun _ => 0) (fun _ => 0) (fun _ => 0) (fun _ => 0) (fun _ => 0) y0 (nI n) = some (nI 0, nI n, nI (n - q), nI 0, nI 0, nI 0, nI 0, nI 0, nI 0, nI 0, nI 0, nI 0, nI 0, nI 0, nI 0, aI t0, aI z0, aI z0, aI z0, aI z0, aI z0, aI z0, aI z0, aI z0, aI z0, aI z0, aL z0, aL z0, aI z0, aI z0, aI z0, aI z0, aI z0) := by
      intro y0 hy
      have ht := rj_times (b1 := nI 0) (b2 := nI n) (b3 := nI (n - q)) (b4 := nI 0) (b5 := nI 0) (b6 := nI 0) (b7 := nI 0) (b8 := nI 0) (b9 := nI 0) (b10 := nI 0) (b11 := nI 0) (b12 := nI 0) (b13 := nI 0) (b14 := nI 0) (b15 := nI 0) (c2 := aI z0) (c3 := aI z0) (c4 := aI z0) (c5 := aI z0) (c6 := aI z0) (c7 := aI z0) (c8 := aI z0) (c9 := aI z0) (c10 := aI z0) (c11 := aI z0) (d1 := aL z0) (d2 := aL z0) (e1 := aI z0) (e2 := aI z0) (e3 := aI z0) (e4 := aI z0) (e5 := aI z0) 24 0 1000000 (by omega) (by omega)
      rw [mix_0, rj_24] at ht
      unfold f_X5_init_205
      rw [hy, qz_sub hq]
      exact ht
    unfold f_X5_init_173
    rcases h2 with ⟨a1, a2, a3⟩ | ⟨a1, a2, a3⟩ | ⟨a1, a2⟩
    · rw [if_pos a1, if_pos a2]; exact h205 _ a3
    · rw [if_pos a1, if_neg a2]; exact h205 _ a3
    · rw [if_neg a1]; exact h205 _ a2
  unfold f_X5_init
  by_cases e1 : (1 : Int32) ≤ x1
  · rw [if_pos e1] at h1 ⊢
    by_cases e2 : x1 ≤ (24 : Int32)
    · rw [if_pos e2] at h1 ⊢
      rw [h1]; exact h173
    · rw [if_neg e2] at h1 ⊢
      rw [h1]; exact h173
  · rw [if_neg e1] at h1 ⊢
    rw [h1]; exact h173
theorem z_ro : roF 0 z0 = z0 := rfl
theorem z_cs (n nd : Nat) : csF n nd 0 z0 z0 = z0 := by
  funext r
  exact if_neg (by omega)
theorem z_cc (nd : Nat) : ccF nd z0 = z0 := by
  funext j
  unfold ccF z0
  split <;> rfl
theorem z_t {n nd : Nat} (h1 : 1 ≤ n) (h2 : n ≤ 24) (h3 : nd ≤ n) : RLt n nd 0 0 t0 z0 z0 z0 := by
  refine ⟨⟨h1, h2, h3, by omega, fun r => Nat.two_pow_pos n, fun r _ => rfl, fun j => Nat.zero_le _, fun c => ?_, fun c hc => ?_⟩, fun j _ => rfl, fun r => ?_, tk_0⟩
  · unfold t0; split <;> omega
  · unfold t0; rw [if_pos hc]; omega
  · show pc 0 24 ≤ 8; decide
theorem z_c : RLc 0 z0 0 := ⟨by omega, fun k hk => by omega, fun c => ⟨fun h => (by rw [Nat.zero_testBit] at h; cases h), fun ⟨k, hk, _⟩ => by omega⟩, by decide, by decide⟩
theorem z_g (n : Nat) : RLg n 0 z0 := ⟨by omega, fun t ht => by omega⟩
theorem z_w : RLw 0 0 0 0 false z0 z0 := ⟨by omega, by omega, rfl, fun i hi => by omega⟩
