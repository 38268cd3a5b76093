-- the class's moveAbout and findSets
theorem ex_s {P : Nat → Prop} {k : Nat} : (∃ i, i < k + 1 ∧ P i) ↔ (∃ i, i < k ∧ P i) ∨ P k := by
  constructor
  · rintro ⟨i, i1, i2⟩
    by_cases e : i = k
    · rw [e] at i2; exact Or.inr i2
    · exact Or.inl ⟨i, by omega, i2⟩
  · rintro (⟨i, i1, i2⟩ | h)
    · exact ⟨i, by omega, i2⟩
    · exact ⟨k, by omega, h⟩
theorem or_ex {A : Prop} {P : Nat → Prop} {k : Nat} : ((A ∨ ∃ i, i < k ∧ P i) ∨ P k) ↔ (A ∨ ∃ i, i < k + 1 ∧ P i) := by
  rw [ex_s, or_assoc]
abbrev O3 := Int32 × Int32 × (Nat → Int32)
def poM (room : Nat) (Q : Nat → Prop) (o : O3) : Prop := ∃ c s a, o = (nI c, nI (Bool.toNat s), aI a) ∧ hoA a c room s Q
theorem imS_24 {rho : Nat → Nat} {W b : Nat} (h : ∀ r, r < b → W.testBit r = true → rho r < 24) : imS rho W b < 16777216 := Nat.lt_pow_two_of_testBit (n := 24) _ (fun i hi => by
  cases q : (imS rho W b).testBit i
  · rfl
  · obtain ⟨r, r1, r2, r3⟩ := (imS_tb rho W i b).1 q
    have := h r r1 r2
    omega)
theorem vaC_lt {w h d ex ey ez T : Nat} (hwhd : w * h * d ≤ 24) : vaC w h d ex ey ez T < 16777216 := by
  unfold vaC
  by_cases e : allK (fun c => !T.testBit c || inC w h d ex ey ez c) 27 0 = true
  · rw [if_pos e]
    rw [allK_iff] at e
    apply imS_24
    intro c c1 c2
    have := e c (Nat.zero_le _) (by omega)
    rw [c2, Bool.not_true, Bool.false_or] at this
    unfold inC at this
    rw [decide_eq_true_iff] at this
    have := ix_lt (w := w) (h := h) (d := d) (x := pl c 0 + ex - 2) (y := pl c 1 + ey - 2) (z := pl c 2 + ez - 2) (by omega) (by omega) (by omega)
    unfold ixC
    omega
  · rw [if_neg e]; decide
theorem qf_28 {w h d T room ez ey : Nat} {Q QQ : Nat → Prop} {K3 : Int32 → Int32 → (Nat → Int32) → Int32 → Int32 → Int32 → Option O3} {K15 : Int32 → Int32 → (Nat → Int32) → Int32 → Int32 → Int32 → Int32 → Option O3} (hT : T < 2147483648) (hw : w ≤ 24) (hh : h ≤ 24) (hd : d ≤ 24) (hwhd : w * h * d ≤ 24) (hr : room ≤ 60) (hy : ey < 100) (hz : ez < 100)
    (hK : ∀ c s a, hoA a c room s (fun y => Q y ∨ ∃ ex, ex < w + 2 ∧ y ≠ 0 ∧ y = vaC w h d ex ey ez T) → ∃ o, K15 (nI c) (nI (Bool.toNat s)) (aI a) (nI T) (nI room) (zo ez) (zo (ey + 1)) = some o ∧ poM room QQ o) : ∀ m k f c s a, k + m = w + 2 → m < f → hoA a c room s (fun y => Q y ∨ ∃ ex, ex < k ∧ y ≠ 0 ∧ y = vaC w h d ex ey ez T) →
    ∃ o, f_X0_moveAbout_28 (nI w) (nI h) (nI d) K3 K15 f (nI c) (nI (Bool.toNat s)) (aI a) (nI T) (nI room) (zo ez) (zo ey) (zo k) = some o ∧ poM room QQ o := by
  intro m
  induction m with
  | zero =>
    intro k f c s a hk hf hq
    obtain ⟨p, rfl, hp⟩ := qt_fuel hf
    have e : k = w + 2 := by omega
    subst e
    simp only [f_X0_moveAbout_28]
    rw [if_pos ((zo_le (by omega) (by omega)).2 (Nat.le_refl _)), qz_i1, zo_1]
    exact hK c s a hq
  | succ m ih =>
    intro k f c s a hk hf hq
    obtain ⟨p, rfl, hp⟩ := qt_fuel hf
    have hv := vaC_lt (w := w) (h := h) (d := d) (ex := k) (ey := ey) (ez := ez) (T := T) hwhd
    simp only [f_X0_moveAbout_28, f_X0_moveAbout_61]
    rw [if_neg (fun q => by rw [zo_le (by omega) (by omega)] at q; omega), qg_setAt hT hw hh hd hwhd (by omega) hy hz, Option.bind_some, qz_i0, qz_i1, zo_1]
    by_cases hz0 : vaC w h d k ey ez T = 0
    · rw [if_pos (show nI (vaC w h d k ey ez T) = nI 0 by rw [hz0])]
      refine ih (k + 1) p c s a (by omega) (by omega) (hoA_mono hq (fun y => ?_))
      rw [ex_s]
      constructor
      · rintro (q | q)
        · exact Or.inl q
        · exact Or.inr (Or.inl q)
      · rintro (q | q | q)
        · exact Or.inl q
        · exact Or.inr q
        · rw [hz0] at q; exact absurd q.2 q.1
    · rw [if_neg (fun q => hz0 ((qz_eq (by omega) (by omega)).1 q))]
      obtain ⟨c', s', a', e1, e2⟩ := qm_keepSet (x := vaC w h d k ey ez T) hr hv hq
      rw [e1, Option.bind_some]
      refine ih (k + 1) p c' s' a' (by omega) (by omega) (hoA_mono e2 (fun y => ?_))
      rw [ex_s]
      constructor
      · rintro ((q | q) | q)
        · exact Or.inl q
        · exact Or.inr (Or.inl q)
        · exact Or.inr (Or.inr ⟨by rw [q]; exact hz0, q⟩)
      · rintro (q | q | q)
        · exact Or.inl (Or.inl q)
        · exact Or.inl (Or.inr q)
        · exact Or.inr q.2
theorem qf_15 {w h d T room ez : Nat} {Q QQ : Nat → Prop} {K3 : Int32 → Int32 → (Nat → Int32) → Int32 → Int32 → Int32 → Option O3} (hT : T < 2147483648) (hw : w ≤ 24) (hh : h ≤ 24) (hd : d ≤ 24) (hwhd : w * h * d ≤ 24) (hr : room ≤ 60) (hz : ez < 100)
    (hK : ∀ c s a, hoA a c room s (fun y => Q y ∨ ∃ ey, ey < h + 2 ∧ ∃ ex, ex < w + 2 ∧ y ≠ 0 ∧ y = vaC w h d ex ey ez T) → ∃ o, K3 (nI c) (nI (Bool.toNat s)) (aI a) (nI T) (nI room) (zo (ez + 1)) = some o ∧ poM room QQ o) : ∀ m k f c s a, k + m = h + 2 → m < f → hoA a c room s (fun y => Q y ∨ ∃ ey, ey < k ∧ ∃ ex, ex < w + 2 ∧ y ≠ 0 ∧ y = vaC w h d ex ey ez T) →
    ∃ o, f_X0_moveAbout_15 (nI w) (nI h) (nI d) K3 f (nI c) (nI (Bool.toNat s)) (aI a) (nI T) (nI room) (zo ez) (zo k) = some o ∧ poM room QQ o := by
  intro m
  induction m with
  | zero =>
    intro k f c s a hk hf hq
    obtain ⟨p, rfl, hp⟩ := qt_fuel hf
    have e : k = h + 2 := by omega
    subst e
    simp only [f_X0_moveAbout_15]
    rw [if_pos ((zo_le (by omega) (by omega)).2 (Nat.le_refl _)), qz_i1, zo_1]
    exact hK c s a hq
  | succ m ih =>
    intro k f c s a hk hf hq
    obtain ⟨p, rfl, hp⟩ := qt_fuel hf
    simp only [f_X0_moveAbout_15]
    rw [if_neg (fun q => by rw [zo_le (by omega) (by omega)] at q; omega), zo_m2]
    refine qf_28 (Q := fun y => Q y ∨ ∃ ey, ey < k ∧ ∃ ex, ex < w + 2 ∧ y ≠ 0 ∧ y = vaC w h d ex ey ez T) hT hw hh hd hwhd hr (by omega) hz (fun c' s' a' h2 => ?_) (w + 2) 0 1000000 c s a (by omega) (by omega) (hoA_mono hq (fun y => ?_))
    · refine ih (k + 1) p c' s' a' (by omega) (by omega) (hoA_mono h2 (fun y => ?_))
      exact or_ex (P := fun ey => ∃ ex, ex < w + 2 ∧ y ≠ 0 ∧ y = vaC w h d ex ey ez T)
    · constructor
      · exact fun q => Or.inl q
      · rintro (q | ⟨i, i1, _⟩)
        · exact q
        · omega
theorem qf_move {w h d T room c : Nat} {s : Bool} {a : Nat → Nat} {Q : Nat → Prop} (hT : T < 2147483648) (hw : w ≤ 24) (hh : h ≤ 24) (hd : d ≤ 24) (hwhd : w * h * d ≤ 24) (hr : room ≤ 60) (hq : hoA a c room s Q) :
    ∃ o, f_X0_moveAbout (nI w) (nI h) (nI d) (nI c) (nI s.toNat) (aI a) (nI T) (nI room) = some o ∧ poM room (fun y => Q y ∨ ∃ ez, ez < d + 2 ∧ ∃ ey, ey < h + 2 ∧ ∃ ex, ex < w + 2 ∧ y ≠ 0 ∧ y = vaC w h d ex ey ez T) o := by
  have key : ∀ m k f c s a, k + m = d + 2 → m < f → hoA a c room s (fun y => Q y ∨ ∃ ez, ez < k ∧ ∃ ey, ey < h + 2 ∧ ∃ ex, ex < w + 2 ∧ y ≠ 0 ∧ y = vaC w h d ex ey ez T) →
      ∃ o, f_X0_moveAbout_3 (nI w) (nI h) (nI d) f (nI c) (nI (Bool.toNat s)) (aI a) (nI T) (nI room) (zo k) = some o ∧ poM room (fun y => Q y ∨ ∃ ez, ez < d + 2 ∧ ∃ ey, ey < h + 2 ∧ ∃ ex, ex < w + 2 ∧ y ≠ 0 ∧ y = vaC w h d ex ey ez T) o := by
    intro m
    induction m with
    | zero =>
      intro k f c s a hk hf hq
      obtain ⟨p, rfl, hp⟩ := qt_fuel hf
      have e : k = d + 2 := by omega
      subst e
      simp only [f_X0_moveAbout_3]
      rw [if_pos ((zo_le (by omega) (by omega)).2 (Nat.le_refl _))]
      exact ⟨_, rfl, c, s, a, rfl, hq⟩
    | succ m ih =>
      intro k f c s a hk hf hq
      obtain ⟨p, rfl, hp⟩ := qt_fuel hf
      simp only [f_X0_moveAbout_3]
      rw [if_neg (fun q => by rw [zo_le (by omega) (by omega)] at q; omega), zo_m2]
      refine qf_15 (Q := fun y => Q y ∨ ∃ ez, ez < k ∧ ∃ ey, ey < h + 2 ∧ ∃ ex, ex < w + 2 ∧ y ≠ 0 ∧ y = vaC w h d ex ey ez T) hT hw hh hd hwhd hr (by omega) (fun c' s' a' h2 => ?_) (h + 2) 0 1000000 c s a (by omega) (by omega) (hoA_mono hq (fun y => ?_))
      · refine ih (k + 1) p c' s' a' (by omega) (by omega) (hoA_mono h2 (fun y => ?_))
        exact or_ex (P := fun ez => ∃ ey, ey < h + 2 ∧ ∃ ex, ex < w + 2 ∧ y ≠ 0 ∧ y = vaC w h d ex ey ez T)
      · constructor
        · exact fun q => Or.inl q
        · rintro (q | ⟨i, i1, _⟩)
          · exact q
          · omega
  have h0 := key (d + 2) 0 1000000 c s a (by omega) (by omega) (hoA_mono hq (fun y => by
    constructor
    · exact fun q => Or.inl q
    · rintro (q | ⟨i, i1, _⟩)
      · exact q
      · omega))
  unfold f_X0_moveAbout
  rw [zo_m2]
  exact h0
/-- the sets that come by one turn -/
def seC (cu w h d o f y : Nat) : Prop := ∃ ez, ez < d + 2 ∧ ∃ ey, ey < h + 2 ∧ ∃ ex, ex < w + 2 ∧ y ≠ 0 ∧ y = vaC w h d ex ey ez (imS (fun c => tcN c o f) cu 27)
/-- all sets that come -/
def alC (cu w h d ki y : Nat) : Prop := ∃ o, o < 6 ∧ ∃ f, f < 8 ∧ tuB o f = true ∧ kiB ki o f = true ∧ seC cu w h d o f y
abbrev O4 := Int32 × Int32 × Int32 × (Nat → Int32)
def poF (room : Nat) (Q : Nat → Prop) (x : O4) : Prop := ∃ c s a, x = ((if s = true then (-1 : Int32) else nI c), nI c, nI (Bool.toNat s), aI a) ∧ hoA a c room s Q
theorem qf_21 {cu w h d room ki o : Nat} {Q QQ : Nat → Prop} {K12 : Int32 → Int32 → (Nat → Int32) → Int32 → Int32 → Int32 → Option O4} (hcu : cu < 2147483648) (hw : w ≤ 24) (hh : h ≤ 24) (hd : d ≤ 24) (hwhd : w * h * d ≤ 24) (hr : room ≤ 60) (hki : ki < 4) (ho : o < 6)
    (hK : ∀ c s a, hoA a c room s (fun y => Q y ∨ ∃ f, f < 8 ∧ tuB o f = true ∧ kiB ki o f = true ∧ seC cu w h d o f y) → ∃ x, K12 (nI c) (nI (Bool.toNat s)) (aI a) (nI ki) (nI room) (nI (o + 1)) = some x ∧ poF room QQ x) : ∀ m k g c s a, k + m = 8 → m < g → hoA a c room s (fun y => Q y ∨ ∃ f, f < k ∧ tuB o f = true ∧ kiB ki o f = true ∧ seC cu w h d o f y) →
    ∃ x, f_X0_findSets_21 (nI cu) (nI w) (nI h) (nI d) K12 g (nI c) (nI (Bool.toNat s)) (aI a) (nI ki) (nI room) (nI o) (nI k) = some x ∧ poF room QQ x := by
  intro m
  induction m with
  | zero =>
    intro k g c s a hk hg hq
    obtain ⟨p, rfl, hp⟩ := qt_fuel hg
    have e : k = 8 := by omega
    subst e
    simp only [f_X0_findSets_21]
    rw [qz_i8, if_pos (Int32.le_refl _), qz_i1, qz_add]
    exact hK c s a hq
  | succ m ih =>
    intro k g c s a hk hg hq
    obtain ⟨p, rfl, hp⟩ := qt_fuel hg
    have hT27 : imS (fun c => tcN c o k) cu 27 < 2147483648 := by
      refine Nat.lt_trans (Nat.lt_pow_two_of_testBit (n := 27) _ (fun i hi => ?_)) (by decide)
      cases q : (imS (fun c => tcN c o k) cu 27).testBit i
      · rfl
      · obtain ⟨r, r1, r2, r3⟩ := (imS_tb _ cu i 27).1 q
        have := (qg_tc27 r r1 o ho k (by omega)).1
        have r3' : tcN r o k = i := r3
        omega
    have hnk : ¬ nI 8 ≤ nI k := by rw [qz_le (by omega) (by omega)]; omega
    simp only [f_X0_findSets_21, f_X0_findSets_59]
    rw [qz_i8, if_neg hnk, qg_tu o ho k (by omega), Option.bind_some, qg_ki ki hki o ho k (by omega), Option.bind_some, qg_turned hcu ho (by omega), Option.bind_some, qz_i1, qz_add, qz_i0]
    have hskip : ¬ (tuB o k = true ∧ kiB ki o k = true) → ∃ x, f_X0_findSets_21 (nI cu) (nI w) (nI h) (nI d) K12 p (nI c) (nI (Bool.toNat s)) (aI a) (nI ki) (nI room) (nI o) (nI (k + 1)) = some x ∧ poF room QQ x := by
      intro hn
      refine ih (k + 1) p c s a (by omega) (by omega) (hoA_mono hq (fun y => ?_))
      rw [ex_s]
      constructor
      · rintro (q | q)
        · exact Or.inl q
        · exact Or.inr (Or.inl q)
      · rintro (q | q | q)
        · exact Or.inl q
        · exact Or.inr q
        · exact absurd ⟨q.1, q.2.1⟩ hn
    cases h1 : tuB o k
    · rw [if_pos (by decide)]
      exact hskip (fun q => by rw [h1] at q; cases q.1)
    · rw [if_neg (by decide)]
      cases h2 : kiB ki o k
      · rw [if_pos (by decide)]
        exact hskip (fun q => by rw [h2] at q; cases q.2)
      · rw [if_neg (by decide)]
        obtain ⟨x, x1, c', s', a', x2, x3⟩ := qf_move (T := imS (fun c => tcN c o k) cu 27) hT27 hw hh hd hwhd hr hq
        rw [x1, Option.bind_some, x2]
        refine ih (k + 1) p c' s' a' (by omega) (by omega) (hoA_mono x3 (fun y => ?_))
        refine Iff.trans ?_ (or_ex (P := fun f => tuB o f = true ∧ kiB ki o f = true ∧ seC cu w h d o f y))
        exact or_congr Iff.rfl ⟨fun q => ⟨h1, h2, q⟩, fun q => q.2.2⟩
theorem qf_findSets {cu w h d room ki : Nat} {y1 y2 : Int32} {a0 : Nat → Nat} (hcu : cu < 2147483648) (hw : w ≤ 24) (hh : h ≤ 24) (hd : d ≤ 24) (hwhd : w * h * d ≤ 24) (hr : room ≤ 60) (hki : ki < 4) :
    ∃ x, f_X0_findSets (nI cu) (nI w) (nI h) (nI d) y1 y2 (aI a0) (nI ki) (nI room) = some x ∧ poF room (alC cu w h d ki) x := by
  have key : ∀ m k g c s a, k + m = 6 → m < g → hoA a c room s (fun y => ∃ o, o < k ∧ ∃ f, f < 8 ∧ tuB o f = true ∧ kiB ki o f = true ∧ seC cu w h d o f y) → ∃ x, f_X0_findSets_12 (nI cu) (nI w) (nI h) (nI d) g (nI c) (nI (Bool.toNat s)) (aI a) (nI ki) (nI room) (nI k) = some x ∧ poF room (alC cu w h d ki) x := by
    intro m
    induction m with
    | zero =>
      intro k g c s a hk hg hq
      obtain ⟨p, rfl, hp⟩ := qt_fuel hg
      have e : k = 6 := by omega
      subst e
      simp only [f_X0_findSets_12, f_X0_findSets_86]
      rw [qz_i6, if_pos (Int32.le_refl _)]
      cases s
      · rw [if_pos (by decide)]; exact ⟨_, rfl, c, false, a, rfl, hq⟩
      · rw [if_neg (by decide)]; exact ⟨_, rfl, c, true, a, rfl, hq⟩
    | succ m ih =>
      intro k g c s a hk hg hq
      obtain ⟨p, rfl, hp⟩ := qt_fuel hg
      have hnk : ¬ nI 6 ≤ nI k := by rw [qz_le (by omega) (by omega)]; omega
      simp only [f_X0_findSets_12]
      rw [qz_i6, if_neg hnk, qz_i0]
      refine qf_21 (Q := fun y => ∃ o, o < k ∧ ∃ f, f < 8 ∧ tuB o f = true ∧ kiB ki o f = true ∧ seC cu w h d o f y) hcu hw hh hd hwhd hr hki (by omega) (fun c' s' a' h2 => ?_) 8 0 1000000 c s a (by omega) (by omega) (hoA_mono hq (fun y => ?_))
      · refine ih (k + 1) p c' s' a' (by omega) (by omega) (hoA_mono h2 (fun y => ?_))
        exact (ex_s (P := fun o => ∃ f, f < 8 ∧ tuB o f = true ∧ kiB ki o f = true ∧ seC cu w h d o f y)).symm
      · constructor
        · exact fun q => Or.inl q
        · rintro (q | ⟨i, i1, _⟩)
          · exact q
          · omega
  have h0 : hoA a0 0 room false (fun y => ∃ o, o < 0 ∧ ∃ f, f < 8 ∧ tuB o f = true ∧ kiB ki o f = true ∧ seC cu w h d o f y) := by
    refine ⟨Nat.zero_le _, fun i j _ hj => by omega, fun i hi => by omega, fun x hx => ?_, fun _ x hx => ?_, fun q => by cases q⟩
    · obtain ⟨i, i1, _⟩ := hx; omega
    · obtain ⟨i, i1, _⟩ := hx; omega
  exact key 6 0 1000000 0 false a0 (by omega) (by omega) h0
