-- cube, turn, exchange, untake
theorem x3_cases (x : Int32) : (x < 0 ∨ (3 : Int32) ≤ x) ∨ ∃ j, j < 3 ∧ x = nI j := by
  rcases pk_ix x (n := 3) (by decide) with q | q | q
  · exact Or.inl (Or.inl q)
  · exact Or.inl (Or.inr q)
  · exact Or.inr q
theorem x3_two {x : Int32} (h : (3 : Int32) ≤ x) : (2 : Int32) < x := Int32.lt_of_lt_of_le (by decide) h
theorem re_cubeC {cu x y z : Nat} (hcu : cu < 2 ^ 27) (hx : x < 3) (hy : y < 3) (hz : z < 3) : f_X4_cube (nI cu) (nI x) (nI y) (nI z) = if cu.testBit (9 * z + 3 * y + x) = false ∧ pc cu 32 < 7 then some (nI 1, nI (cu ||| 2 ^ (9 * z + 3 * y + x))) else some (nI 0, nI cu) := by
  have hlt : cu < 4294967296 := Nat.lt_trans hcu (by decide)
  have hand : cu &&& 2 ^ (9 * z + 3 * y + x) ≤ cu := Nat.and_le_left
  have hand2 : cu &&& 2 ^ (x + 3 * y + 9 * z) ≤ cu := Nat.and_le_left
  have h27 : cu < 134217728 := hcu
  have hb : cu &&& 2 ^ (9 * z + 3 * y + x) = 0 ↔ cu.testBit (9 * z + 3 * y + x) = false := by
    rw [Nat.and_comm, and0]
    constructor
    · intro h; exact h _ (by rw [Nat.testBit_two_pow]; simp)
    · intro h i hi
      rw [Nat.testBit_two_pow, decide_eq_true_iff] at hi
      rw [← hi]; exact h
  have hpc := pc_le cu 32
  have e : x + 3 * y + 9 * z = 9 * z + 3 * y + x := by omega
  unfold f_X4_cube f_X0_addCube f_X0_addCube_27 f_X0_addCube_65
  rw [qp_I cu hlt, Option.bind_some]
  simp (disch := omega) only [qz_i0, qz_i1, qz_i2, qz_i3, qz_i4, qz_i5, qz_i6, qz_i7, qz_i8, qz_i9, qz_i24, qz_i27, qz_i31, qz_i60, qz_i61, qz_i100, qz_i101, qz_i50000, qz_i100000, ql_i0, ql_i1, ql_i63, ql_m1, qz_m1, qz_le, qz_lt, qz_eq, qz_add, qz_mul, qz_sub, qz_an, qz_ix, qz_and, qz_or, qz_shl, qz_shr, qz_andn, ql_eq, ql_and, ql_or, ql_shl, ql_shr, ql_andn, ql_of, qz_k31, qz_k63, qz_bit, qz_b0, qz_b1, ql_b0, ql_b1, lg_0, qz_gd, Nat.one_shiftLeft, aI_ap, aL_ap, upd_aI, upd_aL, aV_ap, upd_aV, upd_aVm]
  rw [if_neg (by omega), if_neg (by omega), if_neg (by omega), if_neg (by omega), if_neg (by omega), if_pos (by omega), e]
  by_cases h1 : cu.testBit (9 * z + 3 * y + x) = false
  · rw [if_pos (hb.2 h1)]
    by_cases h2 : pc cu 32 < 7
    · rw [if_pos h2, if_pos ⟨h1, h2⟩, Option.bind_some]
      exact if_neg (show ¬ ¬ (nI 1 = nI 0 ∨ nI 1 = nI 1) by decide)
    · rw [if_neg h2, if_neg (fun q => h2 q.2), Option.bind_some]
      exact if_neg (show ¬ ¬ (nI 0 = nI 0 ∨ nI 0 = nI 1) by decide)
  · rw [if_neg (fun q => h1 (hb.1 q)), if_neg (fun q => h1 q.1), Option.bind_some]
    exact if_neg (show ¬ ¬ (nI 0 = nI 0 ∨ nI 0 = nI 1) by decide)
theorem re_cubeR {M x y z : Nat} {cb : Nat → Nat} {th : Int32} (hM : M ≤ 7) (hcb : ∀ k, k < M → cb k < 27) (hx : x < 3) (hy : y < 3) (hz : z < 3) :
    (((∃ k, k < M ∧ cb k = 9 * z + 3 * y + x) ∨ M = 7) ∧ f_X5_cube th (nI M) (aI cb) (nI x) (nI y) (nI z) = some (nI 0, nI 0, nI M, aI cb)) ∨
    ((¬ (∃ k, k < M ∧ cb k = 9 * z + 3 * y + x) ∧ M < 7) ∧ f_X5_cube th (nI M) (aI cb) (nI x) (nI y) (nI z) = some (nI 1, nI 0, nI (M + 1), aI (updN cb M (9 * z + 3 * y + x)))) := by
  have key : ∀ m k g, k + m = M → m < g → M < 7 → (∀ i, i < k → cb i ≠ 9 * z + 3 * y + x) →
      ((∃ k, k < M ∧ cb k = 9 * z + 3 * y + x) ∧ f_X5_cube_58 g (nI 0) (nI M) (aI cb) (nI (9 * z + 3 * y + x)) (nI k) = some (nI 0, nI 0, nI M, aI cb)) ∨
      (¬ (∃ k, k < M ∧ cb k = 9 * z + 3 * y + x) ∧ f_X5_cube_58 g (nI 0) (nI M) (aI cb) (nI (9 * z + 3 * y + x)) (nI k) = some (nI 1, nI 0, nI (M + 1), aI (updN cb M (9 * z + 3 * y + x)))) := by
    intro m
    induction m with
    | zero =>
      intro k g hk hg h7 hall
      obtain ⟨p, rfl, hp⟩ := qt_fuel hg
      have e : k = M := by omega
      subst e
      right
      refine ⟨fun ⟨i, i1, i2⟩ => hall i i1 i2, ?_⟩
      simp only [f_X5_cube_58]
      rw [if_pos (Int32.le_refl _)]
      simp (disch := omega) only [qz_i0, qz_i1, qz_i2, qz_i3, qz_i4, qz_i5, qz_i6, qz_i7, qz_i8, qz_i9, qz_i24, qz_i27, qz_i31, qz_i60, qz_i61, qz_i100, qz_i101, qz_i50000, qz_i100000, ql_i0, ql_i1, ql_i63, ql_m1, qz_m1, qz_le, qz_lt, qz_eq, qz_add, qz_mul, qz_sub, qz_an, qz_ix, qz_and, qz_or, qz_shl, qz_shr, qz_andn, ql_eq, ql_and, ql_or, ql_shl, ql_shr, ql_andn, ql_of, qz_k31, qz_k63, qz_bit, qz_b0, qz_b1, ql_b0, ql_b1, lg_0, qz_gd, Nat.one_shiftLeft, aI_ap, aL_ap, upd_aI, upd_aL, aV_ap, upd_aV, upd_aVm]
    | succ m ih =>
      intro k g hk hg h7 hall
      obtain ⟨p, rfl, hp⟩ := qt_fuel hg
      have hc := hcb k (by omega)
      simp only [f_X5_cube_58]
      simp (disch := omega) only [qz_i0, qz_i1, qz_i2, qz_i3, qz_i4, qz_i5, qz_i6, qz_i7, qz_i8, qz_i9, qz_i24, qz_i27, qz_i31, qz_i60, qz_i61, qz_i100, qz_i101, qz_i50000, qz_i100000, ql_i0, ql_i1, ql_i63, ql_m1, qz_m1, qz_le, qz_lt, qz_eq, qz_add, qz_mul, qz_sub, qz_an, qz_ix, qz_and, qz_or, qz_shl, qz_shr, qz_andn, ql_eq, ql_and, ql_or, ql_shl, ql_shr, ql_andn, ql_of, qz_k31, qz_k63, qz_bit, qz_b0, qz_b1, ql_b0, ql_b1, lg_0, qz_gd, Nat.one_shiftLeft, aI_ap, aL_ap, upd_aI, upd_aL, aV_ap, upd_aV, upd_aVm]
      rw [if_neg (by omega)]
      by_cases e : cb k = 9 * z + 3 * y + x
      · left
        rw [if_pos e]
        exact ⟨⟨k, by omega, e⟩, rfl⟩
      · rw [if_neg e]
        refine ih (k + 1) p (by omega) (by omega) h7 (fun i hi => ?_)
        by_cases q : i = k
        · rw [q]; exact e
        · exact hall i (by omega)
  unfold f_X5_cube f_X5_cube_41
  simp (disch := omega) only [qz_i0, qz_i1, qz_i2, qz_i3, qz_i4, qz_i5, qz_i6, qz_i7, qz_i8, qz_i9, qz_i24, qz_i27, qz_i31, qz_i60, qz_i61, qz_i100, qz_i101, qz_i50000, qz_i100000, ql_i0, ql_i1, ql_i63, ql_m1, qz_m1, qz_le, qz_lt, qz_eq, qz_add, qz_mul, qz_sub, qz_an, qz_ix, qz_and, qz_or, qz_shl, qz_shr, qz_andn, ql_eq, ql_and, ql_or, ql_shl, ql_shr, ql_andn, ql_of, qz_k31, qz_k63, qz_bit, qz_b0, qz_b1, ql_b0, ql_b1, lg_0, qz_gd, Nat.one_shiftLeft, aI_ap, aL_ap, upd_aI, upd_aL, aV_ap, upd_aV, upd_aVm]
  rw [if_neg (by omega), if_neg (by omega), if_neg (by omega), if_neg (by omega), if_neg (by omega), if_neg (by omega)]
  by_cases e : M = 7
  · left
    rw [if_pos e]
    exact ⟨Or.inr e, rfl⟩
  · rw [if_neg e]
    rcases key M 0 1000000 (by omega) (by omega) (by omega) (fun i hi => by omega) with ⟨h1, h2⟩ | ⟨h1, h2⟩
    · exact Or.inl ⟨Or.inl h1, h2⟩
    · exact Or.inr ⟨⟨h1, by omega⟩, h2⟩
theorem re_cube {M cu : Nat} {cb : Nat → Nat} {th : Int32} (h : RLc M cb cu) (x1 x2 x3 : Int32) :
    ∃ (b : Bool) (M' cu' : Nat) (cb' : Nat → Nat), f_X4_cube (nI cu) x1 x2 x3 = some (nI b.toNat, nI cu') ∧ f_X5_cube th (nI M) (aI cb) x1 x2 x3 = some (nI b.toNat, nI 0, nI M', aI cb') ∧ RLc M' cb' cu' := by
  have hbad : ∀ x : Int32, (x < 0 ∨ (3 : Int32) ≤ x) → (x < 0 ∨ (2 : Int32) < x) := fun x q => q.elim Or.inl (fun z => Or.inr (x3_two z))
  have hout : ((x1 < 0 ∨ (3 : Int32) ≤ x1) ∨ (x2 < 0 ∨ (3 : Int32) ≤ x2) ∨ (x3 < 0 ∨ (3 : Int32) ≤ x3)) → f_X4_cube (nI cu) x1 x2 x3 = some (nI 0, nI cu) ∧ f_X5_cube th (nI M) (aI cb) x1 x2 x3 = some (nI 0, nI 0, nI M, aI cb) := by
    intro hq
    unfold f_X4_cube f_X0_addCube f_X0_addCube_27 f_X5_cube f_X5_cube_41
    refine ⟨?_, ?_⟩
    · by_cases a1 : x1 < 0
      · rw [if_pos a1]; rfl
      · rw [if_neg a1]
        by_cases a2 : (3 : Int32) ≤ x1
        · rw [if_pos a2]; rfl
        · rw [if_neg a2]
          by_cases a3 : x2 < 0
          · rw [if_pos a3]; rfl
          · rw [if_neg a3]
            by_cases a4 : (3 : Int32) ≤ x2
            · rw [if_pos a4]; rfl
            · rw [if_neg a4]
              by_cases a5 : x3 < 0
              · rw [if_pos a5]; rfl
              · have a6 : (3 : Int32) ≤ x3 := by
                  rcases hq with (q | q) | (q | q) | (q | q)
                  · exact absurd q a1
                  · exact absurd q a2
                  · exact absurd q a3
                  · exact absurd q a4
                  · exact absurd q a5
                  · exact q
                rw [if_neg a5, if_neg (fun q => absurd (Int32.lt_of_lt_of_le q a6) Int32.lt_irrefl)]; rfl
    · by_cases a1 : x1 < 0
      · rw [if_pos a1]; rfl
      · rw [if_neg a1]
        by_cases a2 : (2 : Int32) < x1
        · rw [if_pos a2]; rfl
        · rw [if_neg a2]
          by_cases a3 : x2 < 0
          · rw [if_pos a3]; rfl
          · rw [if_neg a3]
            by_cases a4 : (2 : Int32) < x2
            · rw [if_pos a4]; rfl
            · rw [if_neg a4]
              by_cases a5 : x3 < 0
              · rw [if_pos a5]; rfl
              · have a6 : (2 : Int32) < x3 := by
                  rcases hq with q | q | q
                  · rcases hbad x1 q with z | z
                    · exact absurd z a1
                    · exact absurd z a2
                  · rcases hbad x2 q with z | z
                    · exact absurd z a3
                    · exact absurd z a4
                  · rcases hbad x3 q with z | z
                    · exact absurd z a5
                    · exact z
                rw [if_neg a5, if_pos a6]; rfl
  obtain ⟨hM, hcb, hcu, hpc, hlt⟩ := h
  rcases x3_cases x1 with q1 | ⟨x, hx, e1⟩
  · exact ⟨false, M, cu, cb, (hout (Or.inl q1)).1, (hout (Or.inl q1)).2, hM, hcb, hcu, hpc, hlt⟩
  · rcases x3_cases x2 with q2 | ⟨y, hy, e2⟩
    · exact ⟨false, M, cu, cb, (hout (Or.inr (Or.inl q2))).1, (hout (Or.inr (Or.inl q2))).2, hM, hcb, hcu, hpc, hlt⟩
    · rcases x3_cases x3 with q3 | ⟨z, hz, e3⟩
      · exact ⟨false, M, cu, cb, (hout (Or.inr (Or.inr q3))).1, (hout (Or.inr (Or.inr q3))).2, hM, hcb, hcu, hpc, hlt⟩
      · subst e1 e2 e3
        rw [re_cubeC hlt hx hy hz]
        rcases re_cubeR (th := th) hM hcb hx hy hz with ⟨h1, h2⟩ | ⟨h1, h2⟩
        · refine ⟨false, M, cu, cb, ?_, h2, hM, hcb, hcu, hpc, hlt⟩
          rw [if_neg]; rfl
          rintro ⟨a1, a2⟩
          rcases h1 with h1 | h1
          · rw [(hcu _).2 h1] at a1; cases a1
          · omega
        · have hfalse : cu.testBit (9 * z + 3 * y + x) = false := by
            cases q : cu.testBit (9 * z + 3 * y + x)
            · rfl
            · exact absurd ((hcu _).1 q) h1.1
          refine ⟨true, M + 1, cu ||| 2 ^ (9 * z + 3 * y + x), updN cb M (9 * z + 3 * y + x), ?_, h2, ?_⟩
          · rw [if_pos ⟨hfalse, by omega⟩]; rfl
          · refine ⟨by omega, ?_, ?_, ?_, ?_⟩
            · intro k hk
              by_cases q : k = M
              · rw [q, updN_s]; omega
              · rw [updN_n q]; exact hcb k (by omega)
            · intro c
              rw [tb_or2, Bool.or_eq_true, decide_eq_true_iff, hcu c]
              constructor
              · rintro (⟨k, k1, k2⟩ | q)
                · exact ⟨k, by omega, by rw [updN_n (by omega)]; exact k2⟩
                · exact ⟨M, by omega, by rw [updN_s]; exact q⟩
              · rintro ⟨k, k1, k2⟩
                by_cases q : k = M
                · rw [q, updN_s] at k2; exact Or.inr k2
                · rw [updN_n q] at k2; exact Or.inl ⟨k, by omega, k2⟩
            · rw [pc_orb (by omega) hfalse, hpc]
            · exact Nat.or_lt_two_pow hlt (Nat.pow_lt_pow_right (by decide) (by omega))
def gtA (go : Nat → Nat) (K k : Nat) : Nat → Nat := fun j => if 24 * K ≤ j ∧ j < 24 * K + k then j - 24 * K else go j
theorem gtA_0 (go : Nat → Nat) (K : Nat) : gtA go K 0 = go := by funext j; exact if_neg (fun h => by omega)
theorem gtA_s (go : Nat → Nat) (K k : Nat) : updN (gtA go K k) (24 * K + k) k = gtA go K (k + 1) := by
  funext j
  by_cases e : j = 24 * K + k
  · rw [e, updN_s]; unfold gtA; rw [if_pos ⟨by omega, by omega⟩]; omega
  · rw [updN_n e]; unfold gtA
    by_cases h : 24 * K ≤ j ∧ j < 24 * K + k
    · rw [if_pos h, if_pos ⟨h.1, by omega⟩]
    · rw [if_neg h, if_neg (fun q => h ⟨q.1, by omega⟩)]
theorem re_turn {n K : Nat} {go : Nat → Nat} {th : Int32} (hn : n ≤ 24) (h : RLg n K go) :
    (f_X4_turn (nI K) (aI go) = some (-1, nI K, aI go) ∧ f_X5_turn th (nI K) (aI go) = some (-1, nI 0, nI K, aI go)) ∨
    ∃ go', f_X4_turn (nI K) (aI go) = some (nI K, nI (K + 1), aI go') ∧ f_X5_turn th (nI K) (aI go) = some (nI K, nI 0, nI (K + 1), aI go') ∧ RLg n (K + 1) go' := by
  obtain ⟨hK, hg⟩ := h
  by_cases e : K = 8
  · left
    subst e
    exact ⟨rfl, rfl⟩
  · right
    have kC : ∀ m k g, k + m = 24 → m < g → f_X3_addTurn_13 g (nI K) (aI (gtA go K k)) (nI k) = some (nI K, nI (K + 1), aI (gtA go K 24)) := by
      intro m
      induction m with
      | zero =>
        intro k g hk hg2
        obtain ⟨p, rfl, hp⟩ := qt_fuel hg2
        have e : k = 24 := by omega
        subst e
        simp only [f_X3_addTurn_13]
        rw [qz_i24, if_pos (Int32.le_refl _)]
        simp (disch := omega) only [qz_i0, qz_i1, qz_i2, qz_i3, qz_i4, qz_i5, qz_i6, qz_i7, qz_i8, qz_i9, qz_i24, qz_i27, qz_i31, qz_i60, qz_i61, qz_i100, qz_i101, qz_i50000, qz_i100000, ql_i0, ql_i1, ql_i63, ql_m1, qz_m1, qz_le, qz_lt, qz_eq, qz_add, qz_mul, qz_sub, qz_an, qz_ix, qz_and, qz_or, qz_shl, qz_shr, qz_andn, ql_eq, ql_and, ql_or, ql_shl, ql_shr, ql_andn, ql_of, qz_k31, qz_k63, qz_bit, qz_b0, qz_b1, ql_b0, ql_b1, lg_0, qz_gd, Nat.one_shiftLeft, aI_ap, aL_ap, upd_aI, upd_aL, aV_ap, upd_aV, upd_aVm, Nat.add_sub_cancel]
      | succ m ih =>
        intro k g hk hg2
        obtain ⟨p, rfl, hp⟩ := qt_fuel hg2
        have hstep := ih (k + 1) p (by omega) (by omega)
        rw [← gtA_s] at hstep
        simp only [f_X3_addTurn_13]
        simp (disch := omega) only [qz_i0, qz_i1, qz_i2, qz_i3, qz_i4, qz_i5, qz_i6, qz_i7, qz_i8, qz_i9, qz_i24, qz_i27, qz_i31, qz_i60, qz_i61, qz_i100, qz_i101, qz_i50000, qz_i100000, ql_i0, ql_i1, ql_i63, ql_m1, qz_m1, qz_le, qz_lt, qz_eq, qz_add, qz_mul, qz_sub, qz_an, qz_ix, qz_and, qz_or, qz_shl, qz_shr, qz_andn, ql_eq, ql_and, ql_or, ql_shl, ql_shr, ql_andn, ql_of, qz_k31, qz_k63, qz_bit, qz_b0, qz_b1, ql_b0, ql_b1, lg_0, qz_gd, Nat.one_shiftLeft, aI_ap, aL_ap, upd_aI, upd_aL, aV_ap, upd_aV, upd_aVm, Nat.mul_comm K 24]
        rw [if_neg (by omega)]
        exact hstep
    have kR : ∀ m k g, k + m = 24 → m < g → f_X5_turn_18 g (nI 0) (nI K) (aI (gtA go K k)) (nI k) = some (nI K, nI 0, nI (K + 1), aI (gtA go K 24)) := by
      intro m
      induction m with
      | zero =>
        intro k g hk hg2
        obtain ⟨p, rfl, hp⟩ := qt_fuel hg2
        have e : k = 24 := by omega
        subst e
        simp only [f_X5_turn_18]
        rw [qz_i24, if_pos (Int32.le_refl _)]
        simp (disch := omega) only [qz_i0, qz_i1, qz_i2, qz_i3, qz_i4, qz_i5, qz_i6, qz_i7, qz_i8, qz_i9, qz_i24, qz_i27, qz_i31, qz_i60, qz_i61, qz_i100, qz_i101, qz_i50000, qz_i100000, ql_i0, ql_i1, ql_i63, ql_m1, qz_m1, qz_le, qz_lt, qz_eq, qz_add, qz_mul, qz_sub, qz_an, qz_ix, qz_and, qz_or, qz_shl, qz_shr, qz_andn, ql_eq, ql_and, ql_or, ql_shl, ql_shr, ql_andn, ql_of, qz_k31, qz_k63, qz_bit, qz_b0, qz_b1, ql_b0, ql_b1, lg_0, qz_gd, Nat.one_shiftLeft, aI_ap, aL_ap, upd_aI, upd_aL, aV_ap, upd_aV, upd_aVm, Nat.add_sub_cancel]
      | succ m ih =>
        intro k g hk hg2
        obtain ⟨p, rfl, hp⟩ := qt_fuel hg2
        have hstep := ih (k + 1) p (by omega) (by omega)
        rw [← gtA_s] at hstep
        simp only [f_X5_turn_18]
        simp (disch := omega) only [qz_i0, qz_i1, qz_i2, qz_i3, qz_i4, qz_i5, qz_i6, qz_i7, qz_i8, qz_i9, qz_i24, qz_i27, qz_i31, qz_i60, qz_i61, qz_i100, qz_i101, qz_i50000, qz_i100000, ql_i0, ql_i1, ql_i63, ql_m1, qz_m1, qz_le, qz_lt, qz_eq, qz_add, qz_mul, qz_sub, qz_an, qz_ix, qz_and, qz_or, qz_shl, qz_shr, qz_andn, ql_eq, ql_and, ql_or, ql_shl, ql_shr, ql_andn, ql_of, qz_k31, qz_k63, qz_bit, qz_b0, qz_b1, ql_b0, ql_b1, lg_0, qz_gd, Nat.one_shiftLeft, aI_ap, aL_ap, upd_aI, upd_aL, aV_ap, upd_aV, upd_aVm]
        rw [if_neg (by omega)]
        exact hstep
    refine ⟨gtA go K 24, ?_, ?_, by omega, ?_⟩
    · have k0 := kC 24 0 1000000 (by omega) (by omega)
      rw [gtA_0] at k0
      unfold f_X4_turn f_X3_addTurn
      rw [if_pos (show nI K < (8 : Int32) by rw [qz_i8, qz_lt (by omega) (by omega)]; omega), qz_i0, k0, Option.bind_some]
    · have k0 := kR 24 0 1000000 (by omega) (by omega)
      rw [gtA_0] at k0
      unfold f_X5_turn
      rw [if_neg (show ¬ nI K = (8 : Int32) by rw [qz_i8, qz_eq (by omega) (by omega)]; exact e)]
      exact k0
    · intro t ht
      by_cases e2 : t = K
      · subst e2
        intro P
        refine cnt_congr n (fun c hc => ?_)
        show P (gtA go t 24 (24 * t + c)) = P c
        unfold gtA
        rw [if_pos ⟨by omega, by omega⟩, Nat.add_sub_cancel_left]
      · have h1 := hg t (by omega)
        intro P
        rw [← h1 P]
        refine cnt_congr n (fun c hc => ?_)
        show P (gtA go K 24 (24 * t + c)) = P (go (24 * t + c))
        unfold gtA
        rw [if_neg (fun q => by omega)]
theorem re_swap {n K t a b : Nat} {go : Nat → Nat} (hn : n ≤ 24) (h : RLg n K go) (ht : t < K) (ha : a < n) (hb : b < n) (hab : a ≠ b) : RLg n K (updN (updN go (24 * t + a) (go (24 * t + b))) (24 * t + b) (go (24 * t + a))) := by
  obtain ⟨hK, hg⟩ := h
  refine ⟨hK, fun u hu => ?_⟩
  by_cases e : u = t
  · subst e
    refine goP_swap (hg u hu) ha hb hab ?_ ?_ ?_
    · show updN (updN go (24 * u + a) (go (24 * u + b))) (24 * u + b) (go (24 * u + a)) (24 * u + a) = go (24 * u + b)
      rw [updN_n (by omega), updN_s]
    · show updN (updN go (24 * u + a) (go (24 * u + b))) (24 * u + b) (go (24 * u + a)) (24 * u + b) = go (24 * u + a)
      rw [updN_s]
    · intro c c1 c2
      show updN (updN go (24 * u + a) (go (24 * u + b))) (24 * u + b) (go (24 * u + a)) (24 * u + c) = go (24 * u + c)
      rw [updN_n (by omega), updN_n (by omega)]
  · intro P
    rw [← hg u hu P]
    refine cnt_congr n (fun c hc => ?_)
    show P (updN (updN go (24 * t + a) (go (24 * t + b))) (24 * t + b) (go (24 * t + a)) (24 * u + c)) = P (go (24 * u + c))
    rw [updN_n (by omega), updN_n (by omega)]
theorem re_exchange {n K : Nat} {go : Nat → Nat} {th : Int32} (hn : n ≤ 24) (h : RLg n K go) (x1 x2 x3 : Int32) :
    (f_X4_exchange (nI n) (nI K) (aI go) x1 x2 x3 = some (.inr (RJx00060, aI go)) ∧ f_X5_exchange (nI n) (nI K) th (aI go) x1 x2 x3 = some (nI 0, nI 1, aI go)) ∨
    ∃ (b : Bool) (go' : Nat → Nat), f_X4_exchange (nI n) (nI K) (aI go) x1 x2 x3 = some (.inl (nI b.toNat, aI go')) ∧ f_X5_exchange (nI n) (nI K) th (aI go) x1 x2 x3 = some (nI b.toNat, nI 0, aI go') ∧ RLg n K go' := by
  have hK := h.1
  unfold f_X4_exchange f_X4_exchange_15 f_X5_exchange f_X5_exchange_30 f_X5_exchange_35 f_X5_exchange_46
  have hthr : ∀ th : Int32, (f_X5_throwsIf th (1 : Int32) (1 : Int32)) = some (nI 1, nI 1) := fun th => qr_throws1
  have hthr0 : ∀ th : Int32, (f_X5_throwsIf th (1 : Int32) (0 : Int32)) = some (nI 0, nI 0) := fun th => qr_throws0
  rcases pk_ix x1 (n := K) (by omega) with q | q | ⟨t, t1, t2⟩
  · rw [if_pos q, if_pos q, hthr, Option.bind_some]
    exact Or.inl ⟨rfl, rfl⟩
  · by_cases q0 : x1 < 0
    · rw [if_pos q0, if_pos q0, hthr, Option.bind_some]
      exact Or.inl ⟨rfl, rfl⟩
    · rw [if_neg q0, if_neg q0, if_pos q, if_neg (fun z => absurd (Int32.lt_of_lt_of_le z q) Int32.lt_irrefl), hthr, Option.bind_some]
      exact Or.inl ⟨rfl, rfl⟩
  · subst t2
    have g1 : ¬ nI t < 0 := by rw [qz_i0, qz_lt (by omega) (by omega)]; omega
    have g2 : nI t < nI K := by rw [qz_lt (by omega) (by omega)]; exact t1
    have g3 : ¬ nI K ≤ nI t := by rw [qz_le (by omega) (by omega)]; omega
    rw [if_neg g1, if_neg g1, if_pos g2, if_neg g3]
    rcases rc_col (n := n) (x := x2) (by omega) with ⟨a, a1, a2, a3, a4⟩ | ⟨a3, a4⟩
    · subst a2
      rw [a3, a4, Option.bind_some, Option.bind_some]
      dsimp only [gx]
      rw [if_neg (show ¬ nI 1 = 0 by decide)]
      rcases rc_col (n := n) (x := x3) (by omega) with ⟨b, b1, b2, b3, b4⟩ | ⟨b3, b4⟩
      · subst b2
        rw [b3, b4, Option.bind_some, Option.bind_some]
        dsimp only [gx]
        rw [if_neg (show ¬ nI 1 = 0 by decide), hthr0, Option.bind_some]
        dsimp only
        rw [if_pos (show nI 0 = 0 from rfl)]
        right
        by_cases e : a = b
        · subst e
          rw [if_pos rfl, if_pos rfl]
          exact ⟨false, go, rfl, rfl, h⟩
        · have e' : ¬ nI a = nI b := fun z => e ((qz_eq (by omega) (by omega)).1 z)
          rw [if_neg e', if_neg e']
          refine ⟨true, _, ?_, ?_, re_swap hn h t1 a1 b1 e⟩
          · unfold f_X3_swapTargets
            simp (disch := omega) only [qz_i0, qz_i1, qz_i2, qz_i3, qz_i4, qz_i5, qz_i6, qz_i7, qz_i8, qz_i9, qz_i24, qz_i27, qz_i31, qz_i60, qz_i61, qz_i100, qz_i101, qz_i50000, qz_i100000, ql_i0, ql_i1, ql_i63, ql_m1, qz_m1, qz_le, qz_lt, qz_eq, qz_add, qz_mul, qz_sub, qz_an, qz_ix, qz_and, qz_or, qz_shl, qz_shr, qz_andn, ql_eq, ql_and, ql_or, ql_shl, ql_shr, ql_andn, ql_of, qz_k31, qz_k63, qz_bit, qz_b0, qz_b1, ql_b0, ql_b1, lg_0, qz_gd, Nat.one_shiftLeft, aI_ap, aL_ap, upd_aI, upd_aL, aV_ap, upd_aV, upd_aVm, Nat.mul_comm t 24, Option.bind_some]
            rfl
          · simp (disch := omega) only [qz_i0, qz_i1, qz_i2, qz_i3, qz_i4, qz_i5, qz_i6, qz_i7, qz_i8, qz_i9, qz_i24, qz_i27, qz_i31, qz_i60, qz_i61, qz_i100, qz_i101, qz_i50000, qz_i100000, ql_i0, ql_i1, ql_i63, ql_m1, qz_m1, qz_le, qz_lt, qz_eq, qz_add, qz_mul, qz_sub, qz_an, qz_ix, qz_and, qz_or, qz_shl, qz_shr, qz_andn, ql_eq, ql_and, ql_or, ql_shl, ql_shr, ql_andn, ql_of, qz_k31, qz_k63, qz_bit, qz_b0, qz_b1, ql_b0, ql_b1, lg_0, qz_gd, Nat.one_shiftLeft, aI_ap, aL_ap, upd_aI, upd_aL, aV_ap, upd_aV, upd_aVm]
            rfl
      · rw [b3, b4, Option.bind_some, Option.bind_some]
        dsimp only [gx]
        rw [if_pos (show nI 0 = 0 from rfl), hthr, Option.bind_some]
        exact Or.inl ⟨rfl, rfl⟩
    · rw [a3, a4, Option.bind_some, Option.bind_some]
      dsimp only [gx]
      rw [if_pos (show nI 0 = 0 from rfl), hthr, Option.bind_some]
      exact Or.inl ⟨rfl, rfl⟩
theorem re_untake {n nd R T : Nat} {tm bt cl tk : Nat → Nat} {vws th kp : Int32} (h : RLt n nd R T tm bt cl tk) :
    (f_X4_untake (aI tk) (nI T) (lN (TS tk T)) vws = some (-1, nI T, lN (TS tk T), vws) ∧ f_X5_untake (aI tk) th (nI T) kp = some (-1, nI 0, nI T, kp)) ∨
    (1 ≤ T ∧ f_X4_untake (aI tk) (nI T) (lN (TS tk T)) vws = some (nI (tk (T - 1)), nI (T - 1), lN (TS tk (T - 1)), nI 0) ∧ f_X5_untake (aI tk) th (nI T) kp = some (nI (tk (T - 1)), nI 0, nI (T - 1), nI 0) ∧ RLt n nd R (T - 1) tm bt cl tk) := by
  obtain ⟨hT, hz, hp, hk⟩ := h
  have hR := hT.2.2.2.1
  have h60 := TS_60 hR hk
  unfold f_X4_untake f_X5_untake
  by_cases e : T = 0
  · left
    subst e
    exact ⟨rfl, rfl⟩
  · right
    have hf := hk (T - 1) (by omega)
    have htk : tk (T - 1) < 60 := by have := hf.1; omega
    have hTS : bdf (TS tk T) (2 ^ tk (T - 1)) = TS tk (T - 1) := by
      apply Nat.eq_of_testBit_eq
      intro i
      rw [bdf_tb, show T = (T - 1) + 1 by omega, TS, tb_or2, Nat.testBit_two_pow, Nat.add_sub_cancel]
      by_cases q : tk (T - 1) = i
      · rw [decide_eq_true q, ← q, hf.2.1]; rfl
      · rw [decide_eq_false q]; simp
    refine ⟨by omega, ?_, ?_, hT, hz, hp, fun k hk2 => hk k (by omega)⟩
    · simp (disch := omega) only [qz_i0, qz_i1, qz_i2, qz_i3, qz_i4, qz_i5, qz_i6, qz_i7, qz_i8, qz_i9, qz_i24, qz_i27, qz_i31, qz_i60, qz_i61, qz_i100, qz_i101, qz_i50000, qz_i100000, ql_i0, ql_i1, ql_i63, ql_m1, qz_m1, qz_le, qz_lt, qz_eq, qz_add, qz_mul, qz_sub, qz_an, qz_ix, qz_and, qz_or, qz_shl, qz_shr, qz_andn, ql_eq, ql_and, ql_or, ql_shl, ql_shr, ql_andn, ql_of, qz_k31, qz_k63, qz_bit, qz_b0, qz_b1, ql_b0, ql_b1, lg_0, qz_gd, Nat.one_shiftLeft, aI_ap, aL_ap, upd_aI, upd_aL, aV_ap, upd_aV, upd_aVm, hTS]
      rw [if_pos (by omega)]
    · simp (disch := omega) only [qz_i0, qz_i1, qz_i2, qz_i3, qz_i4, qz_i5, qz_i6, qz_i7, qz_i8, qz_i9, qz_i24, qz_i27, qz_i31, qz_i60, qz_i61, qz_i100, qz_i101, qz_i50000, qz_i100000, ql_i0, ql_i1, ql_i63, ql_m1, qz_m1, qz_le, qz_lt, qz_eq, qz_add, qz_mul, qz_sub, qz_an, qz_ix, qz_and, qz_or, qz_shl, qz_shr, qz_andn, ql_eq, ql_and, ql_or, ql_shl, ql_shr, ql_andn, ql_of, qz_k31, qz_k63, qz_bit, qz_b0, qz_b1, ql_b0, ql_b1, lg_0, qz_gd, Nat.one_shiftLeft, aI_ap, aL_ap, upd_aI, upd_aL, aV_ap, upd_aV, upd_aVm]
      rw [if_neg (by omega)]
