-- both sides lay the same sets
def iaN (o j : Nat) : Nat := if axN o 0 = j then 0 else if axN o 1 = j then 1 else 2
def fF (o f : Nat) : Nat := 2 * iaN o 0 + (f.testBit (iaN o 0)).toNat
def sF (o f : Nat) : Nat := 2 * iaN o 1 + (f.testBit (iaN o 1)).toNat
theorem qe_t1 : ∀ o, o < 6 → ∀ f, f < 8 → tuB o f = true → fF o f < 6 ∧ sF o f < 6 ∧ fF o f / 2 ≠ sF o f / 2 := by decide +kernel
theorem qe_t2 : ∀ o, o < 6 → ∀ f, f < 8 → tuB o f = true → ∀ k, k < 4 → kiB k o f = true → dueB (fF o f) (sF o f) k = true := by decide +kernel
theorem qe_t3 : ∀ o, o < 6 → ∀ f, f < 8 → tuB o f = true → ∀ c, c < 27 → ∀ i, i < 3 → reN c (fF o f) (sF o f) i + (if f.testBit i then 2 else 0) = coC o f c i + 2 := by decide +kernel
def exB (f s k : Nat) : Bool := (List.range 48).any (fun p => tuB (p / 8) (p % 8) && (kiB k (p / 8) (p % 8) && (decide (fF (p / 8) (p % 8) = f) && decide (sF (p / 8) (p % 8) = s))))
theorem qe_t40 : ∀ f, f < 6 → ∀ s, s < 6 → ∀ k, k < 4 → dueB f s k = true → exB f s k = true := by decide +kernel
theorem qe_t4 (f : Nat) (hf : f < 6) (s : Nat) (hs : s < 6) (k : Nat) (hk : k < 4) (h : dueB f s k = true) : ∃ o, o < 6 ∧ ∃ l, l < 8 ∧ tuB o l = true ∧ kiB k o l = true ∧ fF o l = f ∧ sF o l = s := by
  have a := qe_t40 f hf s hs k hk h
  unfold exB at a
  obtain ⟨p, p1, p2⟩ := List.any_eq_true.1 a
  rw [List.mem_range] at p1
  simp only [Bool.and_eq_true, decide_eq_true_iff] at p2
  exact ⟨p / 8, by omega, p % 8, by omega, p2⟩
theorem qe_t5 : ∀ o, o < 6 → ∀ f, f < 8 → ∀ c, c < 27 → ∀ i, i < 3 → coC o f c i ≤ 2 := by decide +kernel
def shN (f i : Nat) : Nat := if f.testBit i then 2 else 0
theorem qe_core {cu : Nat} {cb : Nat → Nat} {M w h d o f ex ey ez : Nat} (hM : 1 ≤ M) (hcb : ∀ k, k < M → cb k < 27) (hcu : ∀ c, cu.testBit c = true ↔ ∃ k, k < M ∧ cb k = c) (ho : o < 6) (hf : f < 8) (ht : tuB o f = true) (y : Nat) :
    (y ≠ 0 ∧ y = vaC w h d ex ey ez (imS (fun c => tcN c o f) cu 27)) ↔ vaR cb M (fF o f) (sF o f) w h d (ex + shN f 0) (ey + shN f 1) (ez + shN f 2) = y + 1 := by
  have hrel : ∀ c, c < 27 → reN c (fF o f) (sF o f) 0 + (ex + shN f 0) = coC o f c 0 + ex + 2 ∧ reN c (fF o f) (sF o f) 1 + (ey + shN f 1) = coC o f c 1 + ey + 2 ∧ reN c (fF o f) (sF o f) 2 + (ez + shN f 2) = coC o f c 2 + ez + 2 := by
    intro c hc
    have a0 := qe_t3 o ho f hf ht c hc 0 (by decide)
    have a1 := qe_t3 o ho f hf ht c hc 1 (by decide)
    have a2 := qe_t3 o ho f hf ht c hc 2 (by decide)
    unfold shN
    omega
  have hin : ∀ c, c < 27 → inC w h d ex ey ez (tcN c o f) = inR (fF o f) (sF o f) w h d (ex + shN f 0) (ey + shN f 1) (ez + shN f 2) c := by
    intro c hc
    have hp := qg_tc27 c hc o ho f hf
    have hr := hrel c hc
    unfold inC inR
    rw [hp.2.1, hp.2.2.1, hp.2.2.2, hr.1, hr.2.1, hr.2.2]
    exact decide_eq_decide.2 ⟨fun q => by omega, fun q => by omega⟩
  have hix : ∀ c, c < 27 → ixC w h ex ey ez (tcN c o f) = ixR (fF o f) (sF o f) w h (ex + shN f 0) (ey + shN f 1) (ez + shN f 2) c := by
    intro c hc
    have hp := qg_tc27 c hc o ho f hf
    have hr := hrel c hc
    unfold ixC ixR
    rw [hp.2.1, hp.2.2.1, hp.2.2.2, hr.1, hr.2.1, hr.2.2]
    rw [show coC o f c 0 + ex + 2 - 4 = coC o f c 0 + ex - 2 by omega, show coC o f c 1 + ey + 2 - 4 = coC o f c 1 + ey - 2 by omega, show coC o f c 2 + ez + 2 - 4 = coC o f c 2 + ez - 2 by omega]
  have hall : allK (fun c => !(imS (fun c => tcN c o f) cu 27).testBit c || inC w h d ex ey ez c) 27 0 = true ↔ allK (fun k => inR (fF o f) (sF o f) w h d (ex + shN f 0) (ey + shN f 1) (ez + shN f 2) (cb k)) M 0 = true := by
    rw [allK_iff, allK_iff]
    constructor
    · intro a k _ k2
      have hc := hcb k (by omega)
      have h1 := (qg_tc27 (cb k) hc o ho f hf).1
      have b := a (tcN (cb k) o f) (Nat.zero_le _) (by omega)
      have h2 : (imS (fun c => tcN c o f) cu 27).testBit (tcN (cb k) o f) = true := (imS_tb _ cu _ 27).2 ⟨cb k, hc, (hcu _).2 ⟨k, by omega, rfl⟩, rfl⟩
      rw [h2, Bool.not_true, Bool.false_or, hin _ hc] at b
      exact b
    · intro a c _ _
      cases hq : (imS (fun c => tcN c o f) cu 27).testBit c
      · rfl
      · obtain ⟨r, r1, r2, r3⟩ := (imS_tb _ cu c 27).1 hq
        obtain ⟨k, k1, k2⟩ := (hcu r).1 r2
        have b := a k (Nat.zero_le _) (by omega)
        rw [Bool.not_true, Bool.false_or, ← r3, hin r r1, ← k2]
        exact b
  have hset : imS (ixC w h ex ey ez) (imS (fun c => tcN c o f) cu 27) 27 = imS (fun k => ixR (fF o f) (sF o f) w h (ex + shN f 0) (ey + shN f 1) (ez + shN f 2) (cb k)) (2 ^ M - 1) M := by
    apply Nat.eq_of_testBit_eq
    intro i
    rw [Bool.eq_iff_iff, imS_tb, imS_tb]
    constructor
    · rintro ⟨c, c1, c2, c3⟩
      obtain ⟨r, r1, r2, r3⟩ := (imS_tb _ cu c 27).1 c2
      obtain ⟨k, k1, k2⟩ := (hcu r).1 r2
      refine ⟨k, k1, by rw [Nat.testBit_two_pow_sub_one]; exact decide_eq_true k1, ?_⟩
      show ixR (fF o f) (sF o f) w h (ex + shN f 0) (ey + shN f 1) (ez + shN f 2) (cb k) = i
      rw [k2, ← hix r r1, ← c3]
      show _ = ixC w h ex ey ez c
      rw [← r3]
    · rintro ⟨k, k1, _, k3⟩
      have hc := hcb k k1
      refine ⟨tcN (cb k) o f, (qg_tc27 (cb k) hc o ho f hf).1, (imS_tb _ cu _ 27).2 ⟨cb k, hc, (hcu _).2 ⟨k, k1, rfl⟩, rfl⟩, ?_⟩
      rw [hix _ hc]
      exact k3
  have hne : imS (fun k => ixR (fF o f) (sF o f) w h (ex + shN f 0) (ey + shN f 1) (ez + shN f 2) (cb k)) (2 ^ M - 1) M ≠ 0 := by
    intro q
    have h1 : (imS (fun k => ixR (fF o f) (sF o f) w h (ex + shN f 0) (ey + shN f 1) (ez + shN f 2) (cb k)) (2 ^ M - 1) M).testBit (ixR (fF o f) (sF o f) w h (ex + shN f 0) (ey + shN f 1) (ez + shN f 2) (cb 0)) = true := (imS_tb _ _ _ M).2 ⟨0, by omega, by rw [Nat.testBit_two_pow_sub_one]; exact decide_eq_true (by omega), rfl⟩
    rw [q, Nat.zero_testBit] at h1
    cases h1
  unfold vaC vaR
  by_cases e : allK (fun k => inR (fF o f) (sF o f) w h d (ex + shN f 0) (ey + shN f 1) (ez + shN f 2) (cb k)) M 0 = true
  · rw [if_pos e, if_pos (hall.2 e), hset]
    exact ⟨fun q => by rw [q.2], fun q => ⟨by rw [← Nat.succ.inj q]; exact hne, (Nat.succ.inj q).symm⟩⟩
  · rw [if_neg e, if_neg (fun q => e (hall.1 q))]
    exact ⟨fun q => absurd q.2 q.1, fun q => by cases q⟩
theorem qe_same {cu : Nat} {cb : Nat → Nat} {M w h d ki : Nat} (hM : 1 ≤ M) (hcb : ∀ k, k < M → cb k < 27) (hcu : ∀ c, cu.testBit c = true ↔ ∃ k, k < M ∧ cb k = c) (hki : ki < 4) (y : Nat) : alC cu w h d ki y ↔ alR cb M w h d ki y := by
  constructor
  · rintro ⟨o, o1, f, f1, t1, t2, ez, z1, ey, y1, ex, x1, hv⟩
    have a := qe_t1 o o1 f f1 t1
    refine ⟨fF o f, a.1, sF o f, a.2.1, qe_t2 o o1 f f1 t1 ki hki t2, ez + shN f 2, ?_, ey + shN f 1, ?_, ex + shN f 0, ?_, (qe_core hM hcb hcu o1 f1 t1 y).1 hv⟩
    · unfold shN; split <;> omega
    · unfold shN; split <;> omega
    · unfold shN; split <;> omega
  · rintro ⟨f, f1, s, s1, due, ez, z1, ey, y1, ex, x1, hv⟩
    obtain ⟨o, o1, l, l1, t1, t2, e1, e2⟩ := qe_t4 f f1 s s1 ki hki due
    subst e1 e2
    have hin : inR (fF o l) (sF o l) w h d ex ey ez (cb 0) = true := by
      unfold vaR at hv
      by_cases e : allK (fun k => inR (fF o l) (sF o l) w h d ex ey ez (cb k)) M 0 = true
      · rw [allK_iff] at e
        exact e 0 (Nat.le_refl _) (by omega)
      · rw [if_neg e] at hv; cases hv
    have hc := hcb 0 (by omega)
    have b0 := qe_t5 o o1 l l1 (cb 0) hc 0 (by decide)
    have b1 := qe_t5 o o1 l l1 (cb 0) hc 1 (by decide)
    have b2 := qe_t5 o o1 l l1 (cb 0) hc 2 (by decide)
    have a0 := qe_t3 o o1 l l1 t1 (cb 0) hc 0 (by decide)
    have a1 := qe_t3 o o1 l l1 t1 (cb 0) hc 1 (by decide)
    have a2 := qe_t3 o o1 l l1 t1 (cb 0) hc 2 (by decide)
    unfold inR at hin
    rw [decide_eq_true_iff] at hin
    have hx : ∃ ex', ex = ex' + shN l 0 ∧ ex' < w + 2 := by
      unfold shN
      by_cases q : l.testBit 0 = true
      · rw [if_pos q] at a0 ⊢; exact ⟨ex - 2, by omega, by omega⟩
      · rw [if_neg q] at a0 ⊢; exact ⟨ex, by omega, by omega⟩
    have hy : ∃ ey', ey = ey' + shN l 1 ∧ ey' < h + 2 := by
      unfold shN
      by_cases q : l.testBit 1 = true
      · rw [if_pos q] at a1 ⊢; exact ⟨ey - 2, by omega, by omega⟩
      · rw [if_neg q] at a1 ⊢; exact ⟨ey, by omega, by omega⟩
    have hz : ∃ ez', ez = ez' + shN l 2 ∧ ez' < d + 2 := by
      unfold shN
      by_cases q : l.testBit 2 = true
      · rw [if_pos q] at a2 ⊢; exact ⟨ez - 2, by omega, by omega⟩
      · rw [if_neg q] at a2 ⊢; exact ⟨ez, by omega, by omega⟩
    obtain ⟨ex', x2, x3⟩ := hx
    obtain ⟨ey', y2, y3⟩ := hy
    obtain ⟨ez', z2, z3⟩ := hz
    subst x2 y2 z2
    exact ⟨o, o1, l, l1, t1, t2, ez', z3, ey', y3, ex', x3, (qe_core hM hcb hcu o1 l1 t1 y).2 hv⟩
