-- what lies in the stacks above the level doesn't matter
def agS (s t : SS) : Prop := s.1 = t.1 ∧ s.2.1 = t.2.1 ∧ s.2.2.2.2.2.2.2 = t.2.2.2.2.2.2.2 ∧ (∀ j, j < s.2.2.2.2.2.2.2 → s.2.2.1 j = t.2.2.1 j ∧ s.2.2.2.1 j = t.2.2.2.1 j ∧ s.2.2.2.2.1 j = t.2.2.2.2.1 j ∧ s.2.2.2.2.2.1 j = t.2.2.2.2.2.1 j) ∧ ∀ i, i < s.2.1 → i < 100 → s.2.2.2.2.2.2.1 i = t.2.2.2.2.2.2.1 i
theorem comeA_ag {nd : Nat} {rows ch fr uc un ke ch' fr' uc' un' ke' : Nat → Nat} {no fo l : Nat} (h1 : ch l = ch' l) (h2 : fr l = fr' l) (h3 : uc l = uc' l) (h4 : ∀ j, j < l → un j = un' j) (h5 : ∀ i, i < fo → i < 100 → ke i = ke' i) :
    (comeA nd rows ch fr uc no fo un ke l).1 = (comeA nd rows ch' fr' uc' no fo un' ke' l).1 ∧ (comeA nd rows ch fr uc no fo un ke l).2.1 = (comeA nd rows ch' fr' uc' no fo un' ke' l).2.1 ∧ (∀ j, j < l + 1 → (comeA nd rows ch fr uc no fo un ke l).2.2.1 j = (comeA nd rows ch' fr' uc' no fo un' ke' l).2.2.1 j) ∧
      ∀ i, i < (comeA nd rows ch fr uc no fo un ke l).2.1 → i < 100 → (comeA nd rows ch fr uc no fo un ke l).2.2.2 i = (comeA nd rows ch' fr' uc' no fo un' ke' l).2.2.2 i := by
  have hu : ∀ x j, j < l + 1 → updN un l x j = updN un' l x j := by
    intro x j hj
    by_cases e : j = l
    · rw [e, updN_s, updN_s]
    · rw [updN_n e, updN_n e]; exact h4 j (by omega)
  by_cases h : no + 1 < 50000
  · cases hq : (bestF (uc l).testBit (fun c => pc (rows c &&& fr l) 64) nd).1 with
    | none =>
      rw [comeA_none h hq, comeA_none h (by rw [← h2, ← h3]; exact hq)]
      refine ⟨rfl, rfl, hu 0, ?_⟩
      intro i hi h100
      have hi' : i < fo + 1 := hi
      show (if fo < 100 then updN ke fo (ch l) else ke) i = (if fo < 100 then updN ke' fo (ch' l) else ke') i
      by_cases e : fo < 100
      · rw [if_pos e, if_pos e]
        by_cases e2 : i = fo
        · rw [e2, updN_s, updN_s]; exact h1
        · rw [updN_n e2, updN_n e2]; exact h5 i (by omega) h100
      · rw [if_neg e, if_neg e]; exact h5 i (by omega) h100
    | some c =>
      rw [comeA_some h hq, comeA_some h (by rw [← h2, ← h3]; exact hq), h2]
      exact ⟨rfl, rfl, hu _, h5⟩
  · rw [comeA_end h, comeA_end h]
    exact ⟨rfl, rfl, hu 0, h5⟩
theorem stp_ag {n nd : Nat} {due rows cols cs : Nat → Nat} {most : Nat} {s t : SS} (h : agS s t) (hh : ¬ hltA most s) : agS (stpA n nd due rows cols cs s) (stpA n nd due rows cols cs t) := by
  obtain ⟨no, fo, ch, fr, un, uc, ke, lv⟩ := s
  obtain ⟨no', fo', ch', fr', un', uc', ke', lv'⟩ := t
  obtain ⟨h1, h2, h3, h4, h5⟩ := h
  simp only at h1 h2 h3 h4 h5
  subst h1 h2 h3
  have hlv : lv ≠ 0 := fun c => hh (Or.inl c)
  have hl : ∃ l, lv = l + 1 := ⟨lv - 1, by omega⟩
  obtain ⟨l, rfl⟩ := hl
  obtain ⟨a1, a2, a3, a4⟩ := h4 l (by omega)
  unfold stpA
  simp only [Nat.add_sub_cancel]
  rw [← a3]
  by_cases hq : un l = 0 ∨ 60 ≤ l
  · rw [if_pos hq, if_pos hq]
    exact ⟨rfl, rfl, rfl, fun j hj => h4 j (by have : j < l := hj; omega), h5⟩
  · rw [if_neg hq, if_neg hq]
    generalize lowb (un l) 60 0 = r
    have e1 : chN ch l r = chN ch' l r := by unfold chN; rw [a1]
    have e2 : coN nd due rows cols ch uc l r = coN nd due rows cols ch' uc' l r := by unfold coN; rw [a4, e1]
    have e3 : frN n nd due rows cols cs ch fr uc l r = frN n nd due rows cols cs ch' fr' uc' l r := by unfold frN; rw [a2, e2]
    have key := comeA_ag (nd := nd) (rows := rows) (no := no) (fo := fo) (ch := updN ch (l + 1) (chN ch l r)) (fr := updN (updN fr l (bdf (fr l) (2 ^ r))) (l + 1) (frN n nd due rows cols cs ch fr uc l r)) (uc := updN uc (l + 1) (bdf (uc l) (coN nd due rows cols ch uc l r))) (un := updN un l (bdf (un l) (2 ^ r))) (ke := ke)
      (ch' := updN ch' (l + 1) (chN ch' l r)) (fr' := updN (updN fr' l (bdf (fr' l) (2 ^ r))) (l + 1) (frN n nd due rows cols cs ch' fr' uc' l r)) (uc' := updN uc' (l + 1) (bdf (uc' l) (coN nd due rows cols ch' uc' l r))) (un' := updN un' l (bdf (un l) (2 ^ r))) (ke' := ke') (l := l + 1)
      (by rw [updN_s, updN_s]; exact e1) (by rw [updN_s, updN_s]; exact e3) (by rw [updN_s, updN_s, a4, e2]) (fun j hj => by
        by_cases e : j = l
        · rw [e, updN_s, updN_s]
        · rw [updN_n e, updN_n e]; exact (h4 j (by omega)).2.2.1) h5
    refine ⟨key.1, key.2.1, rfl, fun j hj => ?_, key.2.2.2⟩
    have hj' : j < l + 2 := hj
    refine ⟨?_, ?_, key.2.2.1 j (by omega), ?_⟩
    · show updN ch (l + 1) (chN ch l r) j = updN ch' (l + 1) (chN ch' l r) j
      by_cases e : j = l + 1
      · rw [e, updN_s, updN_s]; exact e1
      · rw [updN_n e, updN_n e]; exact (h4 j (by omega)).1
    · show updN (updN fr l (bdf (fr l) (2 ^ r))) (l + 1) (frN n nd due rows cols cs ch fr uc l r) j = updN (updN fr' l (bdf (fr' l) (2 ^ r))) (l + 1) (frN n nd due rows cols cs ch' fr' uc' l r) j
      by_cases e : j = l + 1
      · rw [e, updN_s, updN_s]; exact e3
      · rw [updN_n e, updN_n e]
        by_cases e4 : j = l
        · rw [e4, updN_s, updN_s, a2]
        · rw [updN_n e4, updN_n e4]; exact (h4 j (by omega)).2.1
    · show updN uc (l + 1) (bdf (uc l) (coN nd due rows cols ch uc l r)) j = updN uc' (l + 1) (bdf (uc' l) (coN nd due rows cols ch' uc' l r)) j
      by_cases e : j = l + 1
      · rw [e, updN_s, updN_s, a4, e2]
      · rw [updN_n e, updN_n e]; exact (h4 j (by omega)).2.2.2
theorem run_ag {n nd : Nat} {due rows cols cs : Nat → Nat} {most : Nat} : ∀ m (s t : SS), agS s t → agS (runA n nd due rows cols cs most m s) (runA n nd due rows cols cs most m t)
  | 0, _, _, h => h
  | m + 1, s, t, h => by
    rw [runA, runA]
    have hiff : hltA most s ↔ hltA most t := by
      unfold hltA
      rw [h.1, h.2.1, h.2.2.1]
    by_cases hh : hltA most s
    · rw [@if_pos _ (Classical.propDecidable _) hh, @if_pos _ (Classical.propDecidable _) (hiff.1 hh)]; exact h
    · rw [@if_neg _ (Classical.propDecidable _) hh, @if_neg _ (Classical.propDecidable _) (fun c => hh (hiff.2 c))]
      exact run_ag m _ _ (stp_ag h hh)
theorem beg_ag {n nd R : Nat} {due rows cs : Nat → Nat} {ch fr un uc ke ch' fr' un' uc' ke' : Nat → Nat} {start : Nat} : agS (begA n nd R due rows cs ch fr un uc ke start) (begA n nd R due rows cs ch' fr' un' uc' ke' start) := by
  have key := comeA_ag (nd := nd) (rows := rows) (no := 0) (fo := 0) (ch := updN ch 0 start) (fr := updN fr 0 (fitA n nd R due rows cs start)) (uc := updN uc 0 (bs (unP due rows (2 ^ nd - 1) start) nd)) (un := un) (ke := ke) (ch' := updN ch' 0 start) (fr' := updN fr' 0 (fitA n nd R due rows cs start)) (uc' := updN uc' 0 (bs (unP due rows (2 ^ nd - 1) start) nd)) (un' := un') (ke' := ke') (l := 0)
    (by rw [updN_s, updN_s]) (by rw [updN_s, updN_s]) (by rw [updN_s, updN_s]) (fun j hj => by omega) (fun i hi => by omega)
  refine ⟨key.1, key.2.1, rfl, fun j hj => ?_, key.2.2.2⟩
  have hj' : j < 1 := hj
  have e : j = 0 := by omega
  subst e
  exact ⟨by show updN ch 0 start 0 = updN ch' 0 start 0; rw [updN_s, updN_s], by show updN fr 0 (fitA n nd R due rows cs start) 0 = updN fr' 0 (fitA n nd R due rows cs start) 0; rw [updN_s, updN_s], key.2.2.1 0 (by omega), by show updN uc 0 (bs (unP due rows (2 ^ nd - 1) start) nd) 0 = updN uc' 0 (bs (unP due rows (2 ^ nd - 1) start) nd) 0; rw [updN_s, updN_s]⟩
