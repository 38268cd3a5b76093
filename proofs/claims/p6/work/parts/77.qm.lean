-- sorted sets of numbers in an array: keepSet of the class, lays of the reference
def ssA (a : Nat → Nat) (c : Nat) : Prop := ∀ i j, i < j → j < c → a i < a j
def meA (a : Nat → Nat) (c x : Nat) : Prop := ∃ i, i < c ∧ a i = x
def shA (a : Nat → Nat) (c i : Nat) : Nat → Nat := fun j => if i < j ∧ j ≤ c then a (j - 1) else a j
theorem shA_c (a : Nat → Nat) (c : Nat) : shA a c c = a := by funext j; exact if_neg (fun h => by omega)
theorem shA_s {a : Nat → Nat} {c i : Nat} (hi : 1 ≤ i) (hc : i ≤ c) : updN (shA a c i) i (a (i - 1)) = shA a c (i - 1) := by
  funext j
  unfold updN shA
  by_cases e : j = i
  · subst e; rw [if_pos rfl, if_pos ⟨by omega, hc⟩]
  · rw [if_neg e]
    by_cases h : i < j ∧ j ≤ c
    · rw [if_pos h, if_pos ⟨by omega, h.2⟩]
    · rw [if_neg h, if_neg (fun q => h ⟨by omega, q.2⟩)]
theorem shA_p (a : Nat → Nat) (c i : Nat) : shA a c i (i - 1) = a (i - 1) := if_neg (fun h => by omega)
def insA (a : Nat → Nat) (c p x : Nat) : Nat → Nat := updN (shA a c p) p x
theorem insA_lt {a : Nat → Nat} {c p x j : Nat} (h : j < p) : insA a c p x j = a j := by
  unfold insA; rw [updN_n (by omega)]; exact if_neg (fun q => by omega)
theorem insA_eq {a : Nat → Nat} {c p x : Nat} : insA a c p x p = x := updN_s _ _ _
theorem insA_gt {a : Nat → Nat} {c p x j : Nat} (h : p < j) (hc : j ≤ c) : insA a c p x j = a (j - 1) := by
  unfold insA; rw [updN_n (by omega)]; exact if_pos ⟨h, hc⟩
theorem insA_ss {a : Nat → Nat} {c p x : Nat} (hs : ssA a c) (hp : p ≤ c) (h1 : ∀ i, i < p → a i < x) (h2 : p < c → x < a p) : ssA (insA a c p x) (c + 1) := by
  intro i j hij hj
  rcases Nat.lt_trichotomy j p with h | h | h
  · rw [insA_lt h, insA_lt (by omega)]; exact hs i j hij (by omega)
  · subst h; rw [insA_eq, insA_lt hij]; exact h1 i hij
  · rw [insA_gt h (by omega)]
    rcases Nat.lt_trichotomy i p with g | g | g
    · rw [insA_lt g]
      by_cases e : i = j - 1
      · omega
      · exact hs i (j - 1) (by omega) (by omega)
    · subst g; rw [insA_eq]
      have h3 := h2 (by omega)
      by_cases e : i = j - 1
      · rw [← e]; exact h3
      · have := hs i (j - 1) (by omega) (by omega)
        omega
    · rw [insA_gt g (by omega)]; exact hs (i - 1) (j - 1) (by omega) (by omega)
theorem insA_me {a : Nat → Nat} {c p x y : Nat} (hp : p ≤ c) : meA (insA a c p x) (c + 1) y ↔ y = x ∨ meA a c y := by
  constructor
  · rintro ⟨i, i1, i2⟩
    rcases Nat.lt_trichotomy i p with h | h | h
    · rw [insA_lt h] at i2; exact Or.inr ⟨i, by omega, i2⟩
    · subst h; rw [insA_eq] at i2; exact Or.inl i2.symm
    · rw [insA_gt h (by omega)] at i2; exact Or.inr ⟨i - 1, by omega, i2⟩
  · rintro (h | ⟨i, i1, i2⟩)
    · subst h; exact ⟨p, by omega, insA_eq⟩
    · by_cases h : i < p
      · exact ⟨i, by omega, by rw [insA_lt h]; exact i2⟩
      · exact ⟨i + 1, by omega, by rw [insA_gt (by omega) (by omega)]; exact i2⟩
/-- a sorted row of members is no longer than the set -/
theorem ss_ix {a b : Nat → Nat} {c m : Nat} (ha : ssA a c) (hb : ssA b m) (h : ∀ j, j < m → meA a c (b j)) : ∀ j, j < m → ∃ i, j ≤ i ∧ i < c ∧ a i = b j := by
  intro j
  induction j with
  | zero => intro hj; obtain ⟨i, i1, i2⟩ := h 0 hj; exact ⟨i, Nat.zero_le _, i1, i2⟩
  | succ j ih =>
    intro hj
    obtain ⟨i, i1, i2, i3⟩ := ih (by omega)
    obtain ⟨k, k1, k2⟩ := h (j + 1) hj
    have hlt := hb j (j + 1) (by omega) hj
    refine ⟨k, ?_, k1, k2⟩
    refine Nat.le_of_not_lt (fun q => ?_)
    have hki : k ≤ i := by omega
    have : a k ≤ a i := by
      by_cases e : k = i
      · rw [e]; exact Nat.le_refl _
      · exact Nat.le_of_lt (ha k i (by omega) i2)
    omega
theorem ss_len {a b : Nat → Nat} {c m : Nat} (ha : ssA a c) (hb : ssA b m) (h : ∀ j, j < m → meA a c (b j)) : m ≤ c := by
  cases m with
  | zero => exact Nat.zero_le _
  | succ m => obtain ⟨i, i1, i2, _⟩ := ss_ix ha hb h m (by omega); omega
theorem ss_same {a b : Nat → Nat} {c m : Nat} (ha : ssA a c) (hb : ssA b m) (h : ∀ x, meA a c x ↔ meA b m x) : c = m ∧ ∀ i, i < c → a i = b i := by
  have h1 : ∀ j, j < m → meA a c (b j) := fun j hj => (h _).2 ⟨j, hj, rfl⟩
  have h2 : ∀ j, j < c → meA b m (a j) := fun j hj => (h _).1 ⟨j, hj, rfl⟩
  have e1 := ss_len ha hb h1
  have e2 := ss_len hb ha h2
  refine ⟨by omega, fun i hi => ?_⟩
  obtain ⟨k, k1, k2, k3⟩ := ss_ix ha hb h1 i (by omega)
  obtain ⟨l, l1, l2, l3⟩ := ss_ix hb ha h2 i hi
  have f1 : a i ≤ a k := by
    by_cases e : i = k
    · rw [e]; exact Nat.le_refl _
    · exact Nat.le_of_lt (ha i k (by omega) k2)
  have f2 : b i ≤ b l := by
    by_cases e : i = l
    · rw [e]; exact Nat.le_refl _
    · exact Nat.le_of_lt (hb i l (by omega) l2)
  omega
theorem ss_place {a : Nat → Nat} {x : Nat} : ∀ m k c, k + m = c → (∀ i, i < k → a i < x) → ∃ p, k ≤ p ∧ p ≤ c ∧ (∀ i, i < p → a i < x) ∧ (p < c → x ≤ a p)
  | 0, k, c, hk, h => ⟨k, Nat.le_refl _, by omega, h, fun q => by omega⟩
  | m + 1, k, c, hk, h => by
    by_cases e : a k < x
    · obtain ⟨p, p1, p2, p3, p4⟩ := ss_place (a := a) (x := x) m (k + 1) c (by omega) (fun i hi => by
        by_cases q : i = k
        · rw [q]; exact e
        · exact h i (by omega))
      exact ⟨p, by omega, p2, p3, p4⟩
    · exact ⟨k, Nat.le_refl _, by omega, h, fun _ => by omega⟩
/-- the class's keepSet -/
theorem qm_74 {c p x : Nat} {vs : Int32} {a : Nat → Nat} (hc : c < 60) (hp : p ≤ c) : ∀ m i f, p + m = i → i ≤ c → m < f → f_X0_keepSet_74 f (nI c) vs (aI (shA a c i)) (nI x) (nI p) (nI i) = some (nI (c + 1), vs, aI (insA a c p x)) := by
  intro m
  induction m with
  | zero =>
    intro i f hi hic hf
    obtain ⟨q, rfl, hq⟩ := qt_fuel hf
    have e : i = p := by omega
    subst e
    simp only [f_X0_keepSet_74]
    rw [if_pos (Int32.le_refl _)]
    simp (disch := omega) only [qz_i0, qz_i1, qz_i2, qz_i3, qz_i4, qz_i5, qz_i6, qz_i7, qz_i8, qz_i9, qz_i24, qz_i27, qz_i31, qz_i60, qz_i61, qz_i100, qz_i101, qz_i50000, qz_i100000, ql_i0, ql_i1, ql_i63, ql_m1, qz_m1, qz_le, qz_lt, qz_eq, qz_add, qz_mul, qz_sub, qz_an, qz_ix, qz_and, qz_or, qz_shl, qz_shr, qz_andn, ql_eq, ql_and, ql_or, ql_shl, ql_shr, ql_andn, ql_of, qz_k31, qz_k63, qz_bit, qz_b0, qz_b1, ql_b0, ql_b1, lg_0, qz_gd, Nat.one_shiftLeft, aI_ap, aL_ap, upd_aI, upd_aL, aV_ap, upd_aV, upd_aVm]
    rfl
  | succ m ih =>
    intro i f hi hic hf
    obtain ⟨q, rfl, hq⟩ := qt_fuel hf
    have hstep := ih (i - 1) q (by omega) (by omega) (by omega)
    rw [← shA_s (by omega) hic] at hstep
    simp only [f_X0_keepSet_74]
    simp (disch := omega) only [qz_i0, qz_i1, qz_i2, qz_i3, qz_i4, qz_i5, qz_i6, qz_i7, qz_i8, qz_i9, qz_i24, qz_i27, qz_i31, qz_i60, qz_i61, qz_i100, qz_i101, qz_i50000, qz_i100000, ql_i0, ql_i1, ql_i63, ql_m1, qz_m1, qz_le, qz_lt, qz_eq, qz_add, qz_mul, qz_sub, qz_an, qz_ix, qz_and, qz_or, qz_shl, qz_shr, qz_andn, ql_eq, ql_and, ql_or, ql_shl, ql_shr, ql_andn, ql_of, qz_k31, qz_k63, qz_bit, qz_b0, qz_b1, ql_b0, ql_b1, lg_0, qz_gd, Nat.one_shiftLeft, aI_ap, aL_ap, upd_aI, upd_aL, aV_ap, upd_aV, upd_aVm, shA_p]
    rw [if_neg (by omega)]
    exact hstep
theorem qm_2 {c x p room : Nat} {vs : Int32} {a : Nat → Nat} (hc : c ≤ 60) (hx : x < 2147483648) (ha : ∀ i, i < c → a i < 2147483648) (h1 : ∀ i, i < p → a i < x) (h2 : p < c → x ≤ a p) : ∀ m k f, k + m = p → p ≤ c → m < f → f_X0_keepSet_2 f (nI c) vs (aI a) (nI x) (nI room) (nI k) = f_X0_keepSet_26 (nI c) vs (aI a) (nI x) (nI room) (nI p) := by
  intro m
  induction m with
  | zero =>
    intro k f hk hp hf
    obtain ⟨q, rfl, hq⟩ := qt_fuel hf
    have e : k = p := by omega
    subst e
    simp only [f_X0_keepSet_2]
    by_cases e2 : k = c
    · rw [e2, if_pos (Int32.le_refl _)]
    · have hk2 := ha k (by omega)
      have hk3 := h2 (by omega)
      simp (disch := omega) only [qz_i0, qz_i1, qz_i2, qz_i3, qz_i4, qz_i5, qz_i6, qz_i7, qz_i8, qz_i9, qz_i24, qz_i27, qz_i31, qz_i60, qz_i61, qz_i100, qz_i101, qz_i50000, qz_i100000, ql_i0, ql_i1, ql_i63, ql_m1, qz_m1, qz_le, qz_lt, qz_eq, qz_add, qz_mul, qz_sub, qz_an, qz_ix, qz_and, qz_or, qz_shl, qz_shr, qz_andn, ql_eq, ql_and, ql_or, ql_shl, ql_shr, ql_andn, ql_of, qz_k31, qz_k63, qz_bit, qz_b0, qz_b1, ql_b0, ql_b1, lg_0, qz_gd, Nat.one_shiftLeft, aI_ap, aL_ap, upd_aI, upd_aL, aV_ap, upd_aV, upd_aVm]
      rw [if_neg (by omega), if_pos hk3]
  | succ m ih =>
    intro k f hk hp hf
    obtain ⟨q, rfl, hq⟩ := qt_fuel hf
    have hstep := ih (k + 1) q (by omega) hp (by omega)
    have hk2 := ha k (by omega)
    have hk3 := h1 k (by omega)
    simp only [f_X0_keepSet_2]
    simp (disch := omega) only [qz_i0, qz_i1, qz_i2, qz_i3, qz_i4, qz_i5, qz_i6, qz_i7, qz_i8, qz_i9, qz_i24, qz_i27, qz_i31, qz_i60, qz_i61, qz_i100, qz_i101, qz_i50000, qz_i100000, ql_i0, ql_i1, ql_i63, ql_m1, qz_m1, qz_le, qz_lt, qz_eq, qz_add, qz_mul, qz_sub, qz_an, qz_ix, qz_and, qz_or, qz_shl, qz_shr, qz_andn, ql_eq, ql_and, ql_or, ql_shl, ql_shr, ql_andn, ql_of, qz_k31, qz_k63, qz_bit, qz_b0, qz_b1, ql_b0, ql_b1, lg_0, qz_gd, Nat.one_shiftLeft, aI_ap, aL_ap, upd_aI, upd_aL, aV_ap, upd_aV, upd_aVm]
    rw [if_neg (by omega), if_neg (by omega)]
    exact hstep
/-- what a sorted array holds of a growing set: all of it, or more than there is room for -/
def hoA (a : Nat → Nat) (c room : Nat) (s : Bool) (Q : Nat → Prop) : Prop :=
  c ≤ room ∧ ssA a c ∧ (∀ i, i < c → a i < 16777216) ∧ (∀ x, meA a c x → Q x) ∧ (s = false → ∀ x, Q x → meA a c x) ∧ (s = true → ∃ b : Nat → Nat, ssA b (room + 1) ∧ ∀ j, j < room + 1 → Q (b j))
theorem hoA_mono {a : Nat → Nat} {c room : Nat} {s : Bool} {Q Q' : Nat → Prop} (h : hoA a c room s Q) (e : ∀ x, Q x ↔ Q' x) : hoA a c room s Q' := by
  obtain ⟨h1, h2, h3, h4, h5, h6⟩ := h
  refine ⟨h1, h2, h3, fun x hx => (e x).1 (h4 x hx), fun hs x hx => h5 hs x ((e x).2 hx), fun hs => ?_⟩
  obtain ⟨b, b1, b2⟩ := h6 hs
  exact ⟨b, b1, fun j hj => (e _).1 (b2 j hj)⟩
theorem qm_keepSet {c x room : Nat} {s : Bool} {a : Nat → Nat} {Q : Nat → Prop} (hr : room ≤ 60) (hx : x < 16777216) (h : hoA a c room s Q) :
    ∃ c' s' a', f_X0_keepSet (nI c) (nI s.toNat) (aI a) (nI x) (nI room) = some (nI c', nI s'.toNat, aI a') ∧ hoA a' c' room s' (fun y => Q y ∨ y = x) := by
  obtain ⟨h1, h2, h3, h4, h5, h6⟩ := h
  obtain ⟨p, p0, p1, p2, p3⟩ := ss_place (a := a) (x := x) c 0 c (by omega) (fun i hi => by omega)
  have hloop := qm_2 (vs := nI s.toNat) (room := room) (by omega) (by omega) (fun i hi => Nat.lt_trans (h3 i hi) (by decide)) p2 p3 p 0 1000000 (by omega) p1 (by omega)
  have hgoal : f_X0_keepSet (nI c) (nI s.toNat) (aI a) (nI x) (nI room) = f_X0_keepSet_26 (nI c) (nI s.toNat) (aI a) (nI x) (nI room) (nI p) := hloop
  rw [hgoal]
  have hcont : (p < c → x < a p) → ∃ c' s' a', f_X0_keepSet_45 (nI c) (nI s.toNat) (aI a) (nI x) (nI room) (nI p) = some (nI c', nI s'.toNat, aI a') ∧ hoA a' c' room s' (fun y => Q y ∨ y = x) := by
    intro hlt
    have hnot : ¬ meA a c x := by
      rintro ⟨i, i1, i2⟩
      by_cases e : i < p
      · have := p2 i e; omega
      · have := hlt (by omega)
        by_cases e2 : i = p
        · rw [e2] at i2; omega
        · have := h2 p i (by omega) i1; omega
    unfold f_X0_keepSet_45 f_X0_keepSet_62
    have hle : (nI room ≤ nI c) ↔ room ≤ c := qz_le (by omega) (by omega)
    by_cases e : room ≤ c
    · refine ⟨c, true, a, ?_, h1, h2, h3, fun y hy => Or.inl (h4 y hy), (fun q => by cases q), fun _ => ?_⟩
      · rw [if_pos (hle.2 e)]; rfl
      · have hcr : c = room := by omega
        cases hs : s
        · refine ⟨insA a c p x, ?_, ?_⟩
          · rw [← hcr]; exact insA_ss h2 p1 p2 hlt
          · intro j hj
            rw [← hcr] at hj
            rcases (insA_me (a := a) (x := x) p1).1 ⟨j, hj, rfl⟩ with q | q
            · exact Or.inr q
            · exact Or.inl (h4 _ q)
        · obtain ⟨b, b1, b2⟩ := h6 hs
          exact ⟨b, b1, fun j hj => Or.inl (b2 j hj)⟩
    · have h74 := qm_74 (vs := nI s.toNat) (a := a) (x := x) (show c < 60 by omega) p1 (c - p) c 1000000 (by omega) (Nat.le_refl _) (by omega)
      rw [shA_c] at h74
      refine ⟨c + 1, s, insA a c p x, ?_, by omega, insA_ss h2 p1 p2 hlt, ?_, ?_, ?_, ?_⟩
      · rw [if_neg (fun q => e (hle.1 q)), if_pos (by rw [qz_i60, qz_lt (by omega) (by omega)]; omega)]
        exact h74
      · intro i hi
        rcases (insA_me (a := a) (x := x) p1).1 ⟨i, hi, rfl⟩ with q | ⟨j, j1, j2⟩
        · rw [q]; exact hx
        · rw [← j2]; exact h3 j j1
      · intro y hy
        rcases (insA_me p1).1 hy with q | q
        · exact Or.inr q
        · exact Or.inl (h4 y q)
      · intro hs y hy
        rw [insA_me p1]
        rcases hy with q | q
        · exact Or.inr (h5 hs y q)
        · exact Or.inl q
      · intro hs
        obtain ⟨b, b1, b2⟩ := h6 hs
        exact ⟨b, b1, fun j hj => Or.inl (b2 j hj)⟩
  unfold f_X0_keepSet_26
  by_cases e : p = c
  · rw [if_pos (by rw [e]; exact Int32.le_refl _)]
    exact hcont (fun q => by omega)
  · have ha := h3 p (by omega)
    have hp3 := p3 (by omega)
    simp (disch := omega) only [qz_i0, qz_i1, qz_i2, qz_i3, qz_i4, qz_i5, qz_i6, qz_i7, qz_i8, qz_i9, qz_i24, qz_i27, qz_i31, qz_i60, qz_i61, qz_i100, qz_i101, qz_i50000, qz_i100000, ql_i0, ql_i1, ql_i63, ql_m1, qz_m1, qz_le, qz_lt, qz_eq, qz_add, qz_mul, qz_sub, qz_an, qz_ix, qz_and, qz_or, qz_shl, qz_shr, qz_andn, ql_eq, ql_and, ql_or, ql_shl, ql_shr, ql_andn, ql_of, qz_k31, qz_k63, qz_bit, qz_b0, qz_b1, ql_b0, ql_b1, lg_0, qz_gd, Nat.one_shiftLeft, aI_ap, aL_ap, upd_aI, upd_aL, aV_ap, upd_aV, upd_aVm]
    rw [if_neg (by omega)]
    by_cases e2 : a p = x
    · rw [if_pos e2]
      refine ⟨c, s, a, rfl, h1, h2, h3, fun y hy => Or.inl (h4 y hy), ?_, ?_⟩
      · intro hs y hy
        rcases hy with q | q
        · exact h5 hs y q
        · exact ⟨p, by omega, by rw [e2, q]⟩
      · intro hs
        obtain ⟨b, b1, b2⟩ := h6 hs
        exact ⟨b, b1, fun j hj => Or.inl (b2 j hj)⟩
    · rw [if_neg e2]
      exact hcont (fun _ => by omega)
/-- the reference's lays -/
theorem qm_62 {c p x : Nat} {a : Nat → Nat} (hc : c < 60) (hp : p ≤ c) : ∀ m i f, p + m = i → i ≤ c → m < f → f_X5_lays_62 f (nI c) (aI (shA a c i)) (nI x) (nI p) (nI i) = some (nI 1, nI (c + 1), aI (insA a c p x)) := by
  intro m
  induction m with
  | zero =>
    intro i f hi hic hf
    obtain ⟨q, rfl, hq⟩ := qt_fuel hf
    have e : i = p := by omega
    subst e
    simp only [f_X5_lays_62]
    rw [if_pos (Int32.le_refl _)]
    simp (disch := omega) only [qz_i0, qz_i1, qz_i2, qz_i3, qz_i4, qz_i5, qz_i6, qz_i7, qz_i8, qz_i9, qz_i24, qz_i27, qz_i31, qz_i60, qz_i61, qz_i100, qz_i101, qz_i50000, qz_i100000, ql_i0, ql_i1, ql_i63, ql_m1, qz_m1, qz_le, qz_lt, qz_eq, qz_add, qz_mul, qz_sub, qz_an, qz_ix, qz_and, qz_or, qz_shl, qz_shr, qz_andn, ql_eq, ql_and, ql_or, ql_shl, ql_shr, ql_andn, ql_of, qz_k31, qz_k63, qz_bit, qz_b0, qz_b1, ql_b0, ql_b1, lg_0, qz_gd, Nat.one_shiftLeft, aI_ap, aL_ap, upd_aI, upd_aL, aV_ap, upd_aV, upd_aVm]
    rfl
  | succ m ih =>
    intro i f hi hic hf
    obtain ⟨q, rfl, hq⟩ := qt_fuel hf
    have hstep := ih (i - 1) q (by omega) (by omega) (by omega)
    rw [← shA_s (by omega) hic] at hstep
    simp only [f_X5_lays_62]
    simp (disch := omega) only [qz_i0, qz_i1, qz_i2, qz_i3, qz_i4, qz_i5, qz_i6, qz_i7, qz_i8, qz_i9, qz_i24, qz_i27, qz_i31, qz_i60, qz_i61, qz_i100, qz_i101, qz_i50000, qz_i100000, ql_i0, ql_i1, ql_i63, ql_m1, qz_m1, qz_le, qz_lt, qz_eq, qz_add, qz_mul, qz_sub, qz_an, qz_ix, qz_and, qz_or, qz_shl, qz_shr, qz_andn, ql_eq, ql_and, ql_or, ql_shl, ql_shr, ql_andn, ql_of, qz_k31, qz_k63, qz_bit, qz_b0, qz_b1, ql_b0, ql_b1, lg_0, qz_gd, Nat.one_shiftLeft, aI_ap, aL_ap, upd_aI, upd_aL, aV_ap, upd_aV, upd_aVm, shA_p]
    rw [if_neg (by omega)]
    exact hstep
theorem qm_l2 {c x p : Nat} {a : Nat → Nat} (hc : c ≤ 60) (hx : x < 2147483648) (ha : ∀ i, i < c → a i < 2147483648) (h1 : ∀ i, i < p → a i < x) (h2 : p < c → x ≤ a p) : ∀ m k f, k + m = p → p ≤ c → m < f → f_X5_lays_2 f (nI c) (aI a) (nI x) (nI k) = f_X5_lays_26 (nI c) (aI a) (nI x) (nI p) := by
  intro m
  induction m with
  | zero =>
    intro k f hk hp hf
    obtain ⟨q, rfl, hq⟩ := qt_fuel hf
    have e : k = p := by omega
    subst e
    simp only [f_X5_lays_2]
    by_cases e2 : k = c
    · rw [e2, if_pos (Int32.le_refl _)]
    · have hk2 := ha k (by omega)
      have hk3 := h2 (by omega)
      simp (disch := omega) only [qz_i0, qz_i1, qz_i2, qz_i3, qz_i4, qz_i5, qz_i6, qz_i7, qz_i8, qz_i9, qz_i24, qz_i27, qz_i31, qz_i60, qz_i61, qz_i100, qz_i101, qz_i50000, qz_i100000, ql_i0, ql_i1, ql_i63, ql_m1, qz_m1, qz_le, qz_lt, qz_eq, qz_add, qz_mul, qz_sub, qz_an, qz_ix, qz_and, qz_or, qz_shl, qz_shr, qz_andn, ql_eq, ql_and, ql_or, ql_shl, ql_shr, ql_andn, ql_of, qz_k31, qz_k63, qz_bit, qz_b0, qz_b1, ql_b0, ql_b1, lg_0, qz_gd, Nat.one_shiftLeft, aI_ap, aL_ap, upd_aI, upd_aL, aV_ap, upd_aV, upd_aVm]
      rw [if_neg (by omega), if_pos hk3]
  | succ m ih =>
    intro k f hk hp hf
    obtain ⟨q, rfl, hq⟩ := qt_fuel hf
    have hstep := ih (k + 1) q (by omega) hp (by omega)
    have hk2 := ha k (by omega)
    have hk3 := h1 k (by omega)
    simp only [f_X5_lays_2]
    simp (disch := omega) only [qz_i0, qz_i1, qz_i2, qz_i3, qz_i4, qz_i5, qz_i6, qz_i7, qz_i8, qz_i9, qz_i24, qz_i27, qz_i31, qz_i60, qz_i61, qz_i100, qz_i101, qz_i50000, qz_i100000, ql_i0, ql_i1, ql_i63, ql_m1, qz_m1, qz_le, qz_lt, qz_eq, qz_add, qz_mul, qz_sub, qz_an, qz_ix, qz_and, qz_or, qz_shl, qz_shr, qz_andn, ql_eq, ql_and, ql_or, ql_shl, ql_shr, ql_andn, ql_of, qz_k31, qz_k63, qz_bit, qz_b0, qz_b1, ql_b0, ql_b1, lg_0, qz_gd, Nat.one_shiftLeft, aI_ap, aL_ap, upd_aI, upd_aL, aV_ap, upd_aV, upd_aVm]
    rw [if_neg (by omega), if_neg (by omega)]
    exact hstep
theorem qm_lays {c x : Nat} {a : Nat → Nat} {Q : Nat → Prop} (hx : x < 16777216) (h : hoA a c 60 false Q) :
    (∃ c' a', f_X5_lays (nI c) (aI a) (nI x) = some (nI 1, nI c', aI a') ∧ hoA a' c' 60 false (fun y => Q y ∨ y = x)) ∨ (f_X5_lays (nI c) (aI a) (nI x) = some (nI 0, nI c, aI a) ∧ ∃ b : Nat → Nat, ssA b 61 ∧ ∀ j, j < 61 → Q (b j) ∨ b j = x) := by
  obtain ⟨h1, h2, h3, h4, h5, h6⟩ := h
  obtain ⟨p, p0, p1, p2, p3⟩ := ss_place (a := a) (x := x) c 0 c (by omega) (fun i hi => by omega)
  have hloop := qm_l2 (by omega) (by omega) (fun i hi => Nat.lt_trans (h3 i hi) (by decide)) p2 p3 p 0 1000000 (by omega) p1 (by omega)
  have hgoal : f_X5_lays (nI c) (aI a) (nI x) = f_X5_lays_26 (nI c) (aI a) (nI x) (nI p) := hloop
  rw [hgoal]
  have hcont : (p < c → x < a p) → (∃ c' a', f_X5_lays_46 (nI c) (aI a) (nI x) (nI p) = some (nI 1, nI c', aI a') ∧ hoA a' c' 60 false (fun y => Q y ∨ y = x)) ∨ (f_X5_lays_46 (nI c) (aI a) (nI x) (nI p) = some (nI 0, nI c, aI a) ∧ ∃ b : Nat → Nat, ssA b 61 ∧ ∀ j, j < 61 → Q (b j) ∨ b j = x) := by
    intro hlt
    unfold f_X5_lays_46
    have hle : (nI c = (60 : Int32)) ↔ c = 60 := by rw [qz_i60]; exact qz_eq (by omega) (by omega)
    by_cases e : c = 60
    · right
      refine ⟨by rw [if_pos (hle.2 e)]; rfl, insA a c p x, ?_, ?_⟩
      · have := insA_ss h2 p1 p2 hlt
        rwa [e] at this ⊢
      · intro j hj
        rcases (insA_me (a := a) (x := x) p1).1 ⟨j, by omega, rfl⟩ with q | q
        · exact Or.inr q
        · exact Or.inl (h4 _ q)
    · left
      have h62 := qm_62 (a := a) (x := x) (show c < 60 by omega) p1 (c - p) c 1000000 (by omega) (Nat.le_refl _) (by omega)
      rw [shA_c] at h62
      refine ⟨c + 1, insA a c p x, ?_, by omega, insA_ss h2 p1 p2 hlt, ?_, ?_, ?_, fun q => by cases q⟩
      · rw [if_neg (fun q => e (hle.1 q))]
        exact h62
      · intro i hi
        rcases (insA_me (a := a) (x := x) p1).1 ⟨i, hi, rfl⟩ with q | ⟨j, j1, j2⟩
        · rw [q]; exact hx
        · rw [← j2]; exact h3 j j1
      · intro y hy
        rcases (insA_me p1).1 hy with q | q
        · exact Or.inr q
        · exact Or.inl (h4 y q)
      · intro hs y hy
        rw [insA_me p1]
        rcases hy with q | q
        · exact Or.inr (h5 hs y q)
        · exact Or.inl q
  unfold f_X5_lays_26
  by_cases e : p = c
  · rw [if_pos (by rw [e]; exact Int32.le_refl _)]
    exact hcont (fun q => by omega)
  · have ha := h3 p (by omega)
    have hp3 := p3 (by omega)
    simp (disch := omega) only [qz_i0, qz_i1, qz_i2, qz_i3, qz_i4, qz_i5, qz_i6, qz_i7, qz_i8, qz_i9, qz_i24, qz_i27, qz_i31, qz_i60, qz_i61, qz_i100, qz_i101, qz_i50000, qz_i100000, ql_i0, ql_i1, ql_i63, ql_m1, qz_m1, qz_le, qz_lt, qz_eq, qz_add, qz_mul, qz_sub, qz_an, qz_ix, qz_and, qz_or, qz_shl, qz_shr, qz_andn, ql_eq, ql_and, ql_or, ql_shl, ql_shr, ql_andn, ql_of, qz_k31, qz_k63, qz_bit, qz_b0, qz_b1, ql_b0, ql_b1, lg_0, qz_gd, Nat.one_shiftLeft, aI_ap, aL_ap, upd_aI, upd_aL, aV_ap, upd_aV, upd_aVm]
    rw [if_neg (by omega)]
    by_cases e2 : a p = x
    · rw [if_pos e2]
      left
      refine ⟨c, a, rfl, h1, h2, h3, fun y hy => Or.inl (h4 y hy), ?_, fun q => by cases q⟩
      intro hs y hy
      rcases hy with q | q
      · exact h5 hs y q
      · exact ⟨p, by omega, by rw [e2, q]⟩
    · rw [if_neg e2]
      exact hcont (fun _ => by omega)
