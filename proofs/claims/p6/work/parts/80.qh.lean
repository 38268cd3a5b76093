-- the reference's placed and layAll
def thN (f s : Nat) : Nat := 2 * (3 - f / 2 - s / 2) + (f + s + (if (s / 2 + 3 - f / 2) % 3 = 1 then 0 else 1)) % 2
def reN (c f s i : Nat) : Nat := if f / 2 = i then (if f % 2 = 0 then 2 + pl c 0 else 2 - pl c 0) else if s / 2 = i then (if s % 2 = 0 then 2 + pl c 1 else 2 - pl c 1) else (if thN f s % 2 = 0 then 2 + pl c 2 else 2 - pl c 2)
def dueB (f s k : Nat) : Bool := decide (f / 2 ≠ s / 2 ∧ (k = 3 ∨ (k = 2 ∧ thN f s / 2 = 2) ∨ (k = 1 ∧ thN f s = 4) ∨ (f = 0 ∧ s = 2)))
theorem qh_th : ∀ f, f < 6 → ∀ s, s < 6 → f / 2 ≠ s / 2 → f_X5_third (nI f) (nI s) = some (nI (thN f s), ()) := by decide +kernel
theorem qh_re0 : ∀ p, p < 36 → ∀ q, q < 81 → p / 6 / 2 ≠ p % 6 / 2 → f_X5_turned (nI (q / 3)) (nI (p / 6)) (nI (p % 6)) (nI (thN (p / 6) (p % 6))) (nI (q % 3)) = some (zo (reN (q / 3) (p / 6) (p % 6) (q % 3)), ()) := by decide +kernel
theorem qh_re (f : Nat) (hf : f < 6) (s : Nat) (hs : s < 6) (hfs : f / 2 ≠ s / 2) (c : Nat) (hc : c < 27) (i : Nat) (hi : i < 3) : f_X5_turned (nI c) (nI f) (nI s) (nI (thN f s)) (nI i) = some (zo (reN c f s i), ()) := by
  have h := qh_re0 (6 * f + s) (by omega) (3 * c + i) (by omega)
  rw [show (6 * f + s) / 6 = f by omega, show (6 * f + s) % 6 = s by omega, show (3 * c + i) / 3 = c by omega, show (3 * c + i) % 3 = i by omega] at h
  exact h hfs
theorem qh_due : ∀ f, f < 6 → ∀ s, s < 6 → ∀ k, k < 4 → f_X5_isDue (nI f) (nI s) (nI k) = some (nI (dueB f s k).toNat, ()) := by decide +kernel
theorem qh_re4 : ∀ f, f < 6 → ∀ s, s < 6 → f / 2 ≠ s / 2 → ∀ c, c < 27 → ∀ i, i < 3 → reN c f s i ≤ 4 := by decide +kernel
/-- a number less four -/
def zf (e : Nat) : Int32 := nI e - nI 4
theorem zf_toInt {e : Nat} (h : e < 1000) : (zf e).toInt = (e : Int) - 4 := pk_sub_toInt (a := e) (b := 4) (by omega) (by decide)
theorem zo_zo (a e : Nat) : zo a + zo e = zf (a + e) := by
  unfold zo zf
  rw [← qz_add a e, show nI 4 = nI 2 + nI 2 from rfl, Int32.sub_eq_add_neg, Int32.sub_eq_add_neg, Int32.sub_eq_add_neg, Int32.neg_add, Int32.sub_eq_add_neg]
  rw [Int32.add_assoc, Int32.add_assoc, ← Int32.add_assoc (-nI 2), Int32.add_comm (-nI 2) (nI e), Int32.add_assoc]
theorem zf_le {w e : Nat} (hw : w < 1000) (he : e < 1000) : nI w ≤ zf e ↔ w + 4 ≤ e := by
  rw [Int32.le_iff_toInt_le, zf_toInt he, nI_toInt (by omega)]; omega
theorem zf_lt {w e : Nat} (hw : w < 1000) (he : e < 1000) : zf e < nI w ↔ e < w + 4 := by
  rw [Int32.lt_iff_toInt_lt, zf_toInt he, nI_toInt (by omega)]; omega
theorem zf_ge {e : Nat} (h : 4 ≤ e) : zf e = nI (e - 4) := qz_sub h
theorem zo_gt {w e : Nat} (hw : w < 1000) (he : e < 1000) : nI w < zo e ↔ w + 2 < e := by
  rw [Int32.lt_iff_toInt_lt, zo_toInt he, nI_toInt (by omega)]; omega
def inR (f s w h d ex ey ez c : Nat) : Bool := decide (4 ≤ reN c f s 0 + ex ∧ reN c f s 0 + ex < w + 4 ∧ 4 ≤ reN c f s 1 + ey ∧ reN c f s 1 + ey < h + 4 ∧ 4 ≤ reN c f s 2 + ez ∧ reN c f s 2 + ez < d + 4)
def ixR (f s w h ex ey ez c : Nat) : Nat := (reN c f s 0 + ex - 4) + w * ((reN c f s 1 + ey - 4) + h * (reN c f s 2 + ez - 4))
def vaR (cb : Nat → Nat) (M f s w h d ex ey ez : Nat) : Nat := if allK (fun k => inR f s w h d ex ey ez (cb k)) M 0 = true then imS (fun k => ixR f s w h ex ey ez (cb k)) (2 ^ M - 1) M + 1 else 0
theorem qh_placed {cb : Nat → Nat} {M f s w h d ex ey ez : Nat} (hM : M ≤ 7) (hcb : ∀ k, k < M → cb k < 27) (hf : f < 6) (hs : s < 6) (hfs : f / 2 ≠ s / 2) (hw : w ≤ 24) (hh : h ≤ 24) (hd : d ≤ 24) (hwhd : w * h * d ≤ 24) (hx : ex < 100) (hy : ey < 100) (hz : ez < 100) :
    f_X5_placed (nI M) (aI cb) (nI f) (nI s) (zo ex) (zo ey) (zo ez) (nI w) (nI h) (nI d) = some (lvI (vaR cb M f s w h d ex ey ez), ()) := by
  have hWt : ∀ k, k < M → (2 ^ M - 1).testBit k = true := fun k hk => by rw [Nat.testBit_two_pow_sub_one]; exact decide_eq_true hk
  have key : ∀ m k g, k + m = M → m < g → f_X5_placed_6 (nI M) (aI cb) g (nI f) (nI s) (zo ex) (zo ey) (zo ez) (nI w) (nI h) (nI d) (nI (imS (fun k => ixR f s w h ex ey ez (cb k)) (2 ^ M - 1) k)) (nI k) = some (lvI (if allK (fun k => inR f s w h d ex ey ez (cb k)) m k = true then imS (fun k => ixR f s w h ex ey ez (cb k)) (2 ^ M - 1) M + 1 else 0), ()) := by
    intro m
    induction m with
    | zero =>
      intro k g hk hg
      obtain ⟨p, rfl, hp⟩ := qt_fuel hg
      have e : k = M := by omega
      subst e
      simp only [f_X5_placed_6]
      rw [if_pos (Int32.le_refl _), allK, if_pos rfl]
      rfl
    | succ m ih =>
      intro k g hk hg
      obtain ⟨p, rfl, hp⟩ := qt_fuel hg
      have hstep := ih (k + 1) p (by omega) (by omega)
      have hc := hcb k (by omega)
      have r0 := qh_re4 f hf s hs hfs (cb k) hc 0 (by decide)
      have r1 := qh_re4 f hf s hs hfs (cb k) hc 1 (by decide)
      have r2 := qh_re4 f hf s hs hfs (cb k) hc 2 (by decide)
      have q0 : f_X5_turned (nI (cb k)) (nI f) (nI s) (nI (thN f s)) (0 : Int32) = some (zo (reN (cb k) f s 0), ()) := qh_re f hf s hs hfs (cb k) hc 0 (by decide)
      have q1 : f_X5_turned (nI (cb k)) (nI f) (nI s) (nI (thN f s)) (1 : Int32) = some (zo (reN (cb k) f s 1), ()) := qh_re f hf s hs hfs (cb k) hc 1 (by decide)
      have q2 : f_X5_turned (nI (cb k)) (nI f) (nI s) (nI (thN f s)) (2 : Int32) = some (zo (reN (cb k) f s 2), ()) := qh_re f hf s hs hfs (cb k) hc 2 (by decide)
      have hg : ¬ (nI k < 0 ∨ 7 ≤ k) := by rw [qz_i0, qz_lt (by omega) (by omega)]; omega
      have hnk : ¬ nI M ≤ nI k := by rw [qz_le (by omega) (by omega)]; omega
      rw [imS, hWt k (by omega), if_pos rfl] at hstep
      simp only [f_X5_placed_6, f_X5_placed_119]
      rw [if_neg hnk, qz_ix (k := k) (by omega), if_neg hg, qh_th f hf s hs hfs, Option.bind_some, aI_ap, q0, Option.bind_some, if_neg hg, Option.bind_some, q1, Option.bind_some, if_neg hg, Option.bind_some, q2, Option.bind_some, allK]
      simp (disch := omega) only [qz_i0, qz_i1, zo_zo, zf_le, zf_lt, qz_add]
      by_cases hin : inR f s w h d ex ey ez (cb k) = true
      · have hin' := hin
        unfold inR at hin'
        rw [decide_eq_true_iff] at hin'
        obtain ⟨i1, i2, i3, i4, i5, i6⟩ := hin'
        have hix := ix_lt (w := w) (h := h) (d := d) (x := reN (cb k) f s 0 + ex - 4) (y := reN (cb k) f s 1 + ey - 4) (z := reN (cb k) f s 2 + ez - 4) (by omega) (by omega) (by omega)
        rw [if_neg (by omega), if_neg (by omega), if_neg (by omega), if_neg (by omega), if_neg (by omega), if_pos (by omega), hin, Bool.true_and]
        rw [zf_ge i1, zf_ge i3, zf_ge i5]
        simp (disch := omega) only [qz_i0, qz_i1, qz_i2, qz_i3, qz_i4, qz_i5, qz_i6, qz_i7, qz_i8, qz_i9, qz_i24, qz_i27, qz_i31, qz_i60, qz_i61, qz_i100, qz_i101, qz_i50000, qz_i100000, ql_i0, ql_i1, ql_i63, ql_m1, qz_m1, qz_le, qz_lt, qz_eq, qz_add, qz_mul, qz_sub, qz_an, qz_ix, qz_and, qz_or, qz_shl, qz_shr, qz_andn, ql_eq, ql_and, ql_or, ql_shl, ql_shr, ql_andn, ql_of, qz_k31, qz_k63, qz_bit, qz_b0, qz_b1, ql_b0, ql_b1, lg_0, qz_gd, Nat.one_shiftLeft, aI_ap, aL_ap, upd_aI, upd_aL, aV_ap, upd_aV, upd_aVm]
        exact hstep
      · have hin' : inR f s w h d ex ey ez (cb k) = false := by simpa using hin
        rw [hin', Bool.false_and, if_neg (show ¬ ((false : Bool) = true) by decide)]
        unfold inR at hin
        rw [decide_eq_true_iff] at hin
        by_cases j1 : reN (cb k) f s 0 + ex < 0 + 4
        · rw [if_pos j1]; rfl
        · rw [if_neg j1]
          by_cases j2 : w + 4 ≤ reN (cb k) f s 0 + ex
          · rw [if_pos j2]; rfl
          · rw [if_neg j2]
            by_cases j3 : reN (cb k) f s 1 + ey < 0 + 4
            · rw [if_pos j3]; rfl
            · rw [if_neg j3]
              by_cases j4 : h + 4 ≤ reN (cb k) f s 1 + ey
              · rw [if_pos j4]; rfl
              · rw [if_neg j4]
                by_cases j5 : reN (cb k) f s 2 + ez < 0 + 4
                · rw [if_pos j5]; rfl
                · rw [if_neg j5, if_neg (fun q => hin ⟨by omega, by omega, by omega, by omega, by omega, q⟩)]; rfl
  exact key M 0 1000000 (by omega) (by omega)
theorem vaR_lt {cb : Nat → Nat} {M f s w h d ex ey ez : Nat} (hwhd : w * h * d ≤ 24) : vaR cb M f s w h d ex ey ez ≤ 16777216 := by
  unfold vaR
  by_cases e : allK (fun k => inR f s w h d ex ey ez (cb k)) M 0 = true
  · rw [if_pos e]
    rw [allK_iff] at e
    have : imS (fun k => ixR f s w h ex ey ez (cb k)) (2 ^ M - 1) M < 16777216 := by
      apply imS_24
      intro c c1 c2
      have := e c (Nat.zero_le _) (by omega)
      unfold inR at this
      rw [decide_eq_true_iff] at this
      have := ix_lt (w := w) (h := h) (d := d) (x := reN (cb c) f s 0 + ex - 4) (y := reN (cb c) f s 1 + ey - 4) (z := reN (cb c) f s 2 + ez - 4) (by omega) (by omega) (by omega)
      unfold ixR
      omega
    omega
  · rw [if_neg e]; decide
def poL (Q : Nat → Prop) (o : O3) : Prop := ∃ c a, o.2 = (nI c, aI a) ∧ ((o.1 = nI 1 ∧ hoA a c 60 false Q) ∨ (o.1 = nI 0 ∧ ∃ b : Nat → Nat, ssA b 61 ∧ ∀ j, j < 61 → Q (b j)))

theorem qh_68 {cb : Nat → Nat} {M f s w h d ki ey ez : Nat} {Q QQ : Nat → Prop} {K8 : Int32 → (Nat → Int32) → Int32 → Int32 → Int32 → Int32 → Int32 → Option O3} {K18 : Int32 → (Nat → Int32) → Int32 → Int32 → Int32 → Int32 → Int32 → Int32 → Option O3} {K44 : Int32 → (Nat → Int32) → Int32 → Int32 → Int32 → Int32 → Int32 → Int32 → Int32 → Option O3} {K56 : Int32 → (Nat → Int32) → Int32 → Int32 → Int32 → Int32 → Int32 → Int32 → Int32 → Int32 → Option O3} (hM : M ≤ 7) (hcb : ∀ k, k < M → cb k < 27) (hf : f < 6) (hs : s < 6) (hfs : f / 2 ≠ s / 2) (hw : w ≤ 24) (hh : h ≤ 24) (hd : d ≤ 24) (hwhd : w * h * d ≤ 24) (hy : ey < 100) (hz : ez < 100) (hQ : ∀ y, Q y → QQ y) (hV : ∀ ex y, ex < w + 4 → vaR cb M f s w h d ex ey ez = y + 1 → QQ y)
    (hK : ∀ c a, hoA a c 60 false (fun y => Q y ∨ ∃ ex, ex < w + 4 ∧ vaR cb M f s w h d ex ey ez = y + 1) → ∃ o, K56 (nI c) (aI a) (nI w) (nI h) (nI d) (nI ki) (nI f) (nI s) (zo ez) (zo (ey + 1)) = some o ∧ poL QQ o) : ∀ m k g c a, k + m = w + 4 → m < g → hoA a c 60 false (fun y => Q y ∨ ∃ ex, ex < k ∧ vaR cb M f s w h d ex ey ez = y + 1) →
    ∃ o, f_X5_layAll_68 (nI M) (aI cb) K8 K18 K44 K56 g (nI c) (aI a) (nI w) (nI h) (nI d) (nI ki) (nI f) (nI s) (zo ez) (zo ey) (zo k) = some o ∧ poL QQ o := by
  intro m
  induction m with
  | zero =>
    intro k g c a hk hg hq
    obtain ⟨p, rfl, hp⟩ := qt_fuel hg
    have e : k = w + 4 := by omega
    subst e
    simp only [f_X5_layAll_68]
    rw [qz_i1, qz_add, if_pos ((zo_gt (by omega) (by omega)).2 (by omega)), zo_1]
    exact hK c a hq
  | succ m ih =>
    intro k g c a hk hg hq
    obtain ⟨p, rfl, hp⟩ := qt_fuel hg
    have hv := vaR_lt (cb := cb) (M := M) (f := f) (s := s) (w := w) (h := h) (d := d) (ex := k) (ey := ey) (ez := ez) hwhd
    have hVk := hV k
    simp only [f_X5_layAll_68, f_X5_layAll_111]
    rw [qz_i1, qz_add, if_neg (fun q => by rw [zo_gt (by omega) (by omega)] at q; omega), qh_placed hM hcb hf hs hfs hw hh hd hwhd (by omega) hy hz, Option.bind_some, zo_1, qz_i0]
    cases hva : vaR cb M f s w h d k ey ez with
    | zero =>
      rw [if_pos (by decide)]
      refine ih (k + 1) p c a (by omega) (by omega) (hoA_mono hq (fun y => ?_))
      refine Iff.trans ?_ (or_ex (P := fun ex => vaR cb M f s w h d ex ey ez = y + 1))
      constructor
      · exact fun q => Or.inl q
      · rintro (q | q)
        · exact q
        · rw [hva] at q; cases q
    | succ x =>
      rw [hva] at hv
      rw [if_neg (show ¬ lvI (x + 1) < nI 0 by rw [lvI, qz_lt (by omega) (by omega)]; omega)]
      show ∃ o, ((f_X5_lays (nI c) (aI a) (nI x)).bind _) = some o ∧ poL QQ o
      rcases qm_lays (x := x) (by omega) hq with ⟨c', a', e1, e2⟩ | ⟨e1, b, b1, b2⟩
      · rw [e1, Option.bind_some, if_neg (show ¬ nI 1 = nI 0 by decide)]
        refine ih (k + 1) p c' a' (by omega) (by omega) (hoA_mono e2 (fun y => ?_))
        refine Iff.trans ?_ (or_ex (P := fun ex => vaR cb M f s w h d ex ey ez = y + 1))
        refine or_congr Iff.rfl ?_
        rw [hva]
        exact ⟨fun q => by rw [q], fun q => (Nat.succ.inj q).symm⟩
      · rw [e1, Option.bind_some, if_pos (show nI 0 = nI 0 from rfl)]
        refine ⟨_, rfl, c, a, rfl, Or.inr ⟨rfl, b, b1, fun j hj => ?_⟩⟩
        rcases b2 j hj with (q | ⟨ex, q1, q2⟩) | q
        · exact hQ _ q
        · exact hV ex _ (by omega) q2
        · exact hVk _ (by omega) (by rw [hva, q])
theorem qh_56 {cb : Nat → Nat} {M f s w h d ki ez : Nat} {Q QQ : Nat → Prop} {K8 : Int32 → (Nat → Int32) → Int32 → Int32 → Int32 → Int32 → Int32 → Option O3} {K18 : Int32 → (Nat → Int32) → Int32 → Int32 → Int32 → Int32 → Int32 → Int32 → Option O3} {K44 : Int32 → (Nat → Int32) → Int32 → Int32 → Int32 → Int32 → Int32 → Int32 → Int32 → Option O3} (hM : M ≤ 7) (hcb : ∀ k, k < M → cb k < 27) (hf : f < 6) (hs : s < 6) (hfs : f / 2 ≠ s / 2) (hw : w ≤ 24) (hh : h ≤ 24) (hd : d ≤ 24) (hwhd : w * h * d ≤ 24) (hz : ez < 100) (hQ : ∀ y, Q y → QQ y) (hV : ∀ ey ex y, ey < h + 4 → ex < w + 4 → vaR cb M f s w h d ex ey ez = y + 1 → QQ y)
    (hK : ∀ c a, hoA a c 60 false (fun y => Q y ∨ ∃ ey, ey < h + 4 ∧ ∃ ex, ex < w + 4 ∧ vaR cb M f s w h d ex ey ez = y + 1) → ∃ o, K44 (nI c) (aI a) (nI w) (nI h) (nI d) (nI ki) (nI f) (nI s) (zo (ez + 1)) = some o ∧ poL QQ o) : ∀ m k g c a, k + m = h + 4 → m < g → hoA a c 60 false (fun y => Q y ∨ ∃ ey, ey < k ∧ ∃ ex, ex < w + 4 ∧ vaR cb M f s w h d ex ey ez = y + 1) →
    ∃ o, f_X5_layAll_56 (nI M) (aI cb) K8 K18 K44 g (nI c) (aI a) (nI w) (nI h) (nI d) (nI ki) (nI f) (nI s) (zo ez) (zo k) = some o ∧ poL QQ o := by
  intro m
  induction m with
  | zero =>
    intro k g c a hk hg hq
    obtain ⟨p, rfl, hp⟩ := qt_fuel hg
    have e : k = h + 4 := by omega
    subst e
    simp only [f_X5_layAll_56]
    rw [qz_i1, qz_add, if_pos ((zo_gt (by omega) (by omega)).2 (by omega)), zo_1]
    exact hK c a hq
  | succ m ih =>
    intro k g c a hk hg hq
    obtain ⟨p, rfl, hp⟩ := qt_fuel hg
    simp only [f_X5_layAll_56]
    rw [qz_i1, qz_add, if_neg (fun q => by rw [zo_gt (by omega) (by omega)] at q; omega), zo_m2]
    refine qh_68 (Q := fun y => Q y ∨ ∃ ey, ey < k ∧ ∃ ex, ex < w + 4 ∧ vaR cb M f s w h d ex ey ez = y + 1) hM hcb hf hs hfs hw hh hd hwhd (by omega) hz ?_ (fun ex y e1 e2 => hV k ex y (by omega) e1 e2) (fun c' a' h2 => ?_) (w + 4) 0 1000000 c a (by omega) (by omega) (hoA_mono hq (fun y => ?_))
    · rintro y (q | ⟨ey, q1, ex, q2, q3⟩)
      · exact hQ y q
      · exact hV ey ex y (by omega) q2 q3
    · refine ih (k + 1) p c' a' (by omega) (by omega) (hoA_mono h2 (fun y => ?_))
      exact or_ex (P := fun ey => ∃ ex, ex < w + 4 ∧ vaR cb M f s w h d ex ey ez = y + 1)
    · constructor
      · exact fun q => Or.inl q
      · rintro (q | ⟨i, i1, _⟩)
        · exact q
        · omega
theorem qh_44 {cb : Nat → Nat} {M f s w h d ki : Nat} {Q QQ : Nat → Prop} {K8 : Int32 → (Nat → Int32) → Int32 → Int32 → Int32 → Int32 → Int32 → Option O3} {K18 : Int32 → (Nat → Int32) → Int32 → Int32 → Int32 → Int32 → Int32 → Int32 → Option O3} (hM : M ≤ 7) (hcb : ∀ k, k < M → cb k < 27) (hf : f < 6) (hs : s < 6) (hfs : f / 2 ≠ s / 2) (hw : w ≤ 24) (hh : h ≤ 24) (hd : d ≤ 24) (hwhd : w * h * d ≤ 24) (hQ : ∀ y, Q y → QQ y) (hV : ∀ ez ey ex y, ez < d + 4 → ey < h + 4 → ex < w + 4 → vaR cb M f s w h d ex ey ez = y + 1 → QQ y)
    (hK : ∀ c a, hoA a c 60 false (fun y => Q y ∨ ∃ ez, ez < d + 4 ∧ ∃ ey, ey < h + 4 ∧ ∃ ex, ex < w + 4 ∧ vaR cb M f s w h d ex ey ez = y + 1) → ∃ o, K18 (nI c) (aI a) (nI w) (nI h) (nI d) (nI ki) (nI f) (nI (s + 1)) = some o ∧ poL QQ o) : ∀ m k g c a, k + m = d + 4 → m < g → hoA a c 60 false (fun y => Q y ∨ ∃ ez, ez < k ∧ ∃ ey, ey < h + 4 ∧ ∃ ex, ex < w + 4 ∧ vaR cb M f s w h d ex ey ez = y + 1) →
    ∃ o, f_X5_layAll_44 (nI M) (aI cb) K8 K18 g (nI c) (aI a) (nI w) (nI h) (nI d) (nI ki) (nI f) (nI s) (zo k) = some o ∧ poL QQ o := by
  intro m
  induction m with
  | zero =>
    intro k g c a hk hg hq
    obtain ⟨p, rfl, hp⟩ := qt_fuel hg
    have e : k = d + 4 := by omega
    subst e
    simp only [f_X5_layAll_44, f_X5_layAll_129]
    rw [qz_i1, qz_add, if_pos ((zo_gt (by omega) (by omega)).2 (by omega)), qz_add]
    exact hK c a hq
  | succ m ih =>
    intro k g c a hk hg hq
    obtain ⟨p, rfl, hp⟩ := qt_fuel hg
    simp only [f_X5_layAll_44, f_X5_layAll_129]
    rw [qz_i1, qz_add, if_neg (fun q => by rw [zo_gt (by omega) (by omega)] at q; omega), zo_m2]
    refine qh_56 (Q := fun y => Q y ∨ ∃ ez, ez < k ∧ ∃ ey, ey < h + 4 ∧ ∃ ex, ex < w + 4 ∧ vaR cb M f s w h d ex ey ez = y + 1) hM hcb hf hs hfs hw hh hd hwhd (by omega) ?_ (fun ey ex y e0 e1 e2 => hV k ey ex y (by omega) e0 e1 e2) (fun c' a' h2 => ?_) (h + 4) 0 1000000 c a (by omega) (by omega) (hoA_mono hq (fun y => ?_))
    · rintro y (q | ⟨ez, q0, ey, q1, ex, q2, q3⟩)
      · exact hQ y q
      · exact hV ez ey ex y (by omega) q1 q2 q3
    · refine ih (k + 1) p c' a' (by omega) (by omega) (hoA_mono h2 (fun y => ?_))
      exact or_ex (P := fun ez => ∃ ey, ey < h + 4 ∧ ∃ ex, ex < w + 4 ∧ vaR cb M f s w h d ex ey ez = y + 1)
    · constructor
      · exact fun q => Or.inl q
      · rintro (q | ⟨i, i1, _⟩)
        · exact q
        · omega
def seR (cb : Nat → Nat) (M w h d f s y : Nat) : Prop := ∃ ez, ez < d + 4 ∧ ∃ ey, ey < h + 4 ∧ ∃ ex, ex < w + 4 ∧ vaR cb M f s w h d ex ey ez = y + 1
def alR (cb : Nat → Nat) (M w h d ki y : Nat) : Prop := ∃ f, f < 6 ∧ ∃ s, s < 6 ∧ dueB f s ki = true ∧ seR cb M w h d f s y
theorem due_ne {f s k : Nat} (h : dueB f s k = true) : f / 2 ≠ s / 2 := (decide_eq_true_iff.1 h).1
theorem qh_18 {cb : Nat → Nat} {M f w h d ki : Nat} {Q : Nat → Prop} {K8 : Int32 → (Nat → Int32) → Int32 → Int32 → Int32 → Int32 → Int32 → Option O3} (hM : M ≤ 7) (hcb : ∀ k, k < M → cb k < 27) (hf : f < 6) (hki : ki < 4) (hw : w ≤ 24) (hh : h ≤ 24) (hd : d ≤ 24) (hwhd : w * h * d ≤ 24) (hQ : ∀ y, Q y → alR cb M w h d ki y)
    (hK : ∀ c a, hoA a c 60 false (fun y => Q y ∨ ∃ s, s < 6 ∧ dueB f s ki = true ∧ seR cb M w h d f s y) → ∃ o, K8 (nI c) (aI a) (nI w) (nI h) (nI d) (nI ki) (nI (f + 1)) = some o ∧ poL (alR cb M w h d ki) o) : ∀ m k g c a, k + m = 6 → m < g → hoA a c 60 false (fun y => Q y ∨ ∃ s, s < k ∧ dueB f s ki = true ∧ seR cb M w h d f s y) →
    ∃ o, f_X5_layAll_18 (nI M) (aI cb) K8 g (nI c) (aI a) (nI w) (nI h) (nI d) (nI ki) (nI f) (nI k) = some o ∧ poL (alR cb M w h d ki) o := by
  intro m
  induction m with
  | zero =>
    intro k g c a hk hg hq
    obtain ⟨p, rfl, hp⟩ := qt_fuel hg
    have e : k = 6 := by omega
    subst e
    simp only [f_X5_layAll_18]
    rw [qz_i6, if_pos (Int32.le_refl _), qz_i1, qz_add]
    exact hK c a hq
  | succ m ih =>
    intro k g c a hk hg hq
    obtain ⟨p, rfl, hp⟩ := qt_fuel hg
    have hnk : ¬ nI 6 ≤ nI k := by rw [qz_le (by omega) (by omega)]; omega
    simp only [f_X5_layAll_18, f_X5_layAll_129]
    rw [qz_i6, if_neg hnk, qh_due f hf k (by omega) ki hki, Option.bind_some, qz_i1, qz_add, qz_i0, zo_m2]
    cases hdue : dueB f k ki
    · rw [if_pos (by decide)]
      refine ih (k + 1) p c a (by omega) (by omega) (hoA_mono hq (fun y => ?_))
      refine Iff.trans ?_ (or_ex (P := fun s => dueB f s ki = true ∧ seR cb M w h d f s y))
      constructor
      · exact fun q => Or.inl q
      · rintro (q | q)
        · exact q
        · rw [hdue] at q; cases q.1
    · rw [if_neg (by decide)]
      refine qh_44 (Q := fun y => Q y ∨ ∃ s, s < k ∧ dueB f s ki = true ∧ seR cb M w h d f s y) (QQ := alR cb M w h d ki) hM hcb hf (by omega) (due_ne hdue) hw hh hd hwhd ?_ ?_ (fun c' a' h2 => ?_) (d + 4) 0 1000000 c a (by omega) (by omega) (hoA_mono hq (fun y => ?_))
      · rintro y (q | ⟨s, q0, q1, q2⟩)
        · exact hQ y q
        · exact ⟨f, hf, s, by omega, q1, q2⟩
      · intro ez ey ex y e1 e2 e3 e4
        exact ⟨f, hf, k, by omega, hdue, ez, e1, ey, e2, ex, e3, e4⟩
      · refine ih (k + 1) p c' a' (by omega) (by omega) (hoA_mono h2 (fun y => ?_))
        refine Iff.trans ?_ (or_ex (P := fun s => dueB f s ki = true ∧ seR cb M w h d f s y))
        exact or_congr Iff.rfl ⟨fun q => ⟨hdue, q⟩, fun q => q.2⟩
      · constructor
        · exact fun q => Or.inl q
        · rintro (q | ⟨i, i1, _⟩)
          · exact q
          · omega
theorem qh_layAll {cb a0 : Nat → Nat} {M w h d ki : Nat} {y1 : Int32} (hM : M ≤ 7) (hcb : ∀ k, k < M → cb k < 27) (hki : ki < 4) (hw : w ≤ 24) (hh : h ≤ 24) (hd : d ≤ 24) (hwhd : w * h * d ≤ 24) :
    ∃ o, f_X5_layAll (nI M) (aI cb) y1 (aI a0) (nI w) (nI h) (nI d) (nI ki) = some o ∧ poL (alR cb M w h d ki) o := by
  have key : ∀ m k g c a, k + m = 6 → m < g → hoA a c 60 false (fun y => ∃ f, f < k ∧ ∃ s, s < 6 ∧ dueB f s ki = true ∧ seR cb M w h d f s y) → ∃ o, f_X5_layAll_8 (nI M) (aI cb) g (nI c) (aI a) (nI w) (nI h) (nI d) (nI ki) (nI k) = some o ∧ poL (alR cb M w h d ki) o := by
    intro m
    induction m with
    | zero =>
      intro k g c a hk hg hq
      obtain ⟨p, rfl, hp⟩ := qt_fuel hg
      have e : k = 6 := by omega
      subst e
      simp only [f_X5_layAll_8]
      rw [qz_i6, if_pos (Int32.le_refl _)]
      exact ⟨_, rfl, c, a, rfl, Or.inl ⟨rfl, hq⟩⟩
    | succ m ih =>
      intro k g c a hk hg hq
      obtain ⟨p, rfl, hp⟩ := qt_fuel hg
      have hnk : ¬ nI 6 ≤ nI k := by rw [qz_le (by omega) (by omega)]; omega
      simp only [f_X5_layAll_8]
      rw [qz_i6, if_neg hnk, qz_i0]
      refine qh_18 (Q := fun y => ∃ f, f < k ∧ ∃ s, s < 6 ∧ dueB f s ki = true ∧ seR cb M w h d f s y) hM hcb (by omega) hki hw hh hd hwhd ?_ (fun c' a' h2 => ?_) 6 0 1000000 c a (by omega) (by omega) (hoA_mono hq (fun y => ?_))
      · rintro y ⟨f, f1, f2⟩
        exact ⟨f, by omega, f2⟩
      · refine ih (k + 1) p c' a' (by omega) (by omega) (hoA_mono h2 (fun y => ?_))
        exact (ex_s (P := fun f => ∃ s, s < 6 ∧ dueB f s ki = true ∧ seR cb M w h d f s y)).symm
      · constructor
        · exact fun q => Or.inl q
        · rintro (q | ⟨i, i1, _⟩)
          · exact q
          · omega
  have h0 : hoA a0 0 60 false (fun y => ∃ f, f < 0 ∧ ∃ s, s < 6 ∧ dueB f s ki = true ∧ seR cb M w h d f s y) := by
    refine ⟨Nat.zero_le _, fun i j _ hj => by omega, fun i hi => by omega, fun x hx => ?_, fun _ x hx => ?_, fun q => by cases q⟩
    · obtain ⟨i, i1, _⟩ := hx; omega
    · obtain ⟨i, i1, _⟩ := hx; omega
  exact key 6 0 1000000 0 a0 (by omega) (by omega) h0
