-- X3.addTurn()I: 34 instructions
theorem in_X3_addTurn_X3 : ∀ w ∈ wsX30, w ∈ wsX3_addTurn := by decide +kernel
abbrev ws_X3_addTurn (cB cI cJ cZ : ClassId) (a_this a_targets a_table a_rowImages a_classOf : Nat) (v_count : Int32) (v_targets : (Nat → Int32)) : va_W := [(a_this, .inr (4, [.ref a_table, .ref a_targets, .ref a_rowImages, .ref a_classOf, .int v_count])), (a_targets, .inl (cI, 192, .inl v_targets))]
abbrev rm_X3_addTurn : Room := { frames := 0, cells := 0, slots := 0, locals := 0 }
theorem lk_X3_addTurn_f25 : Cond.fieldLink RX3 25 "LinkedCovers$Turns" "count" "I" ∈ wsX3_addTurn := by decide +kernel
theorem lk_X3_addTurn_f9 : Cond.fieldLink RX3 9 "LinkedCovers$Turns" "targets" "[I" ∈ wsX3_addTurn := by decide +kernel
def f_X3_addTurn_13   : Nat → Int32 → (Nat → Int32) → Int32 → Option (Int32 × Int32 × (Nat → Int32))
  | 0 => fun _ _ _ => none
  | n + 1 => fun v_count v_targets x1 => if (24 : Int32) ≤ x1 then
  (some ((((v_count + (1 : Int32)) - (1 : Int32)), ((v_count + (1 : Int32)), v_targets))))
  else
  (if (((v_count * (24 : Int32)) + x1) < 0 ∨ 192 ≤ Int32.toNatClampNeg ((v_count * (24 : Int32)) + x1)) then none else
  f_X3_addTurn_13 n v_count (upd v_targets (Int32.toNatClampNeg ((v_count * (24 : Int32)) + x1)) x1) (x1 + 1))
def f_X3_addTurn   (v_count : Int32) (v_targets : (Nat → Int32)) : Option (Int32 × Int32 × (Nat → Int32)) :=
  if v_count < (8 : Int32) then
  (f_X3_addTurn_13 1000000 v_count v_targets (0 : Int32))
  else
  (some (((-1 : Int32), (v_count, v_targets))))
abbrev qc_X3_addTurn (A : Nat → Prop) (dC : Nat → ClassId) (dI : Nat → Nat → Nat) (cB cI cJ cZ : ClassId) (a_this a_targets a_table a_rowImages a_classOf : Nat)  (out : Int32 × Int32 × (Nat → Int32)) : Array Value → State → Outcome → State → Prop := va_Qi (fun (r : Int32) (u : Int32 × (Nat → Int32)) => r = out.1 ∧ u = out.2) (fun (u : Int32 × (Nat → Int32)) (t : State) => va_P (dC, dI) vwCl (ws_X3_addTurn cB cI cJ cZ a_this a_targets a_table a_rowImages a_classOf u.1 u.2) t.heap ∧ va_K (dC, dI) vwCl (tysG cB cI cJ cZ) t ∧ va_D A (ws_X3_addTurn cB cI cJ cZ a_this a_targets a_table a_rowImages a_classOf u.1 u.2)) A
abbrev g_X3_addTurn_13 (p : Program) (l : Launch) (e : Env) (s : State) (m : MethodId) (args : Array Value) (below : List Frame) (meth : Method) (c : Code) (A : Nat → Prop) (dC : Nat → ClassId) (dI : Nat → Nat → Nat) (cB cI cJ cZ : ClassId) (a_this a_targets a_table a_rowImages a_classOf : Nat)  (out : Int32 × Int32 × (Nat → Int32)) (k : Int32 → (Nat → Int32) → Int32 → Option (Int32 × Int32 × (Nat → Int32))) : Prop := ∀ (v_count : Int32) (v_targets : (Nat → Int32)) (x1 : Int32), k v_count v_targets x1 = some out → ∀ (H : Heap) (locs : List Loc), va_P (dC, dI) vwCl (ws_X3_addTurn cB cI cJ cZ a_this a_targets a_table a_rowImages a_classOf v_count v_targets) H → va_D A (ws_X3_addTurn cB cI cJ cZ a_this a_targets a_table a_rowImages a_classOf v_count v_targets) → va_S A s.heap H locs → ∀ (ls : Array Slot), lv_has ls 2 [(0, .ref a_this), (1, .int x1)] → W p l e (headSpec wsX3_addTurn rm_X3_addTurn).room s m args below meth c H locs 0 0 (MQ below (qc_X3_addTurn A dC dI cB cI cJ cZ a_this a_targets a_table a_rowImages a_classOf  out) args s 0 0 A) (F0 m 13 ls [])
abbrev g_X3_addTurn_0 (p : Program) (l : Launch) (e : Env) (s : State) (m : MethodId) (args : Array Value) (below : List Frame) (meth : Method) (c : Code) (A : Nat → Prop) (dC : Nat → ClassId) (dI : Nat → Nat → Nat) (cB cI cJ cZ : ClassId) (a_this a_targets a_table a_rowImages a_classOf : Nat)  (out : Int32 × Int32 × (Nat → Int32)) (k : Int32 → (Nat → Int32) → Option (Int32 × Int32 × (Nat → Int32))) : Prop := ∀ (v_count : Int32) (v_targets : (Nat → Int32)), k v_count v_targets = some out → ∀ (H : Heap) (locs : List Loc), va_P (dC, dI) vwCl (ws_X3_addTurn cB cI cJ cZ a_this a_targets a_table a_rowImages a_classOf v_count v_targets) H → va_D A (ws_X3_addTurn cB cI cJ cZ a_this a_targets a_table a_rowImages a_classOf v_count v_targets) → va_S A s.heap H locs → ∀ (ls : Array Slot), lv_has ls 2 [(0, .ref a_this)] → W p l e (headSpec wsX3_addTurn rm_X3_addTurn).room s m args below meth c H locs 0 0 (MQ below (qc_X3_addTurn A dC dI cB cI cJ cZ a_this a_targets a_table a_rowImages a_classOf  out) args s 0 0 A) (F0 m 0 ls [])
set_option maxHeartbeats 4000000 in
set_option maxRecDepth 100000 in
theorem w_X3_addTurn_13 {p : Program} {l : Launch} {e : Env} {s : State} {m : MethodId} {args : Array Value} {below : List Frame} {meth : Method} {c : Code} {A : Nat → Prop} {dC : Nat → ClassId} {dI : Nat → Nat → Nat} {cB cI cJ cZ : ClassId} {a_this a_targets a_table a_rowImages a_classOf : Nat}  {out : Int32 × Int32 × (Nat → Int32)} (C0 : Cx RX3 cX3_addTurn (some .int) 2 wsX3_addTurn p s m args meth c A) (hK : va_K (dC, dI) vwCl (tysG cB cI cJ cZ) s)  : ∀ n : Nat, g_X3_addTurn_13 p l e s m args below meth c A dC dI cB cI cJ cZ a_this a_targets a_table a_rowImages a_classOf  out (f_X3_addTurn_13   n) := by
  obtain ⟨hx, hb, hr, hml, hown, hts, hlocks, hA⟩ := id C0
  intro n
  induction n with
  | zero =>
    intro v_count v_targets x1 hf H locs hP hD hS ls hl
    exact nomatch (show (none : Option (Int32 × Int32 × (Nat → Int32))) = some out from hf)
  | succ n ih =>
    intro v_count v_targets x1 hf H locs hP hD hS ls hl
    replace hf : ((if (24 : Int32) ≤ x1 then
  (some ((((v_count + (1 : Int32)) - (1 : Int32)), ((v_count + (1 : Int32)), v_targets))))
  else
  (if (((v_count * (24 : Int32)) + x1) < 0 ∨ 192 ≤ Int32.toNatClampNeg ((v_count * (24 : Int32)) + x1)) then none else
  f_X3_addTurn_13 n v_count (upd v_targets (Int32.toNatClampNeg ((v_count * (24 : Int32)) + x1)) x1) (x1 + 1))) : Option (Int32 × Int32 × (Nat → Int32))) = some out := hf
    refine lv_iload_n hx hb dX3_addTurn_13 rfl (lv_at hl 1 rfl) ?_
    refine lv_bipush (v := 24) hx hb dX3_addTurn_14 (by decide) ?_
    refine lv_icmp_ge (tgt := 40) hx hb dX3_addTurn_16 (by decide) (fun c_1 => ?_) (fun c_1 => ?_)
    · replace hf := (if_pos c_1).symm.trans hf
      refine lv_aload_n hx hb dX3_addTurn_40 rfl (lv_at hl 0 rfl) ?_
      refine lv_dup hx hb dX3_addTurn_41 rfl ?_
      refine va_get (D := (dC, dI)) (ci := 4) (v := .int v_count) (C := RX3) (T := TX3) (N := 5) hx hb hts in_X3_addTurn_X3 hown hK hP 0 rfl rfl 4 (by decide) (hts (.fieldLink RX3 25 "LinkedCovers$Turns" "count" "I") lk_X3_addTurn_f25) (fun _ h9 => h9) rfl dX3_addTurn_42 ?_
      refine lv_iconst (v := 1) hx hb dX3_addTurn_45 (by decide) ?_
      refine lv_iadd hx hb dX3_addTurn_46 ?_
      refine va_put (D := (dC, dI)) (ci := 4) (v := .int (v_count + (1 : Int32))) (ty := .int) (C := RX3) (T := TX3) (N := 5) hx hb hts in_X3_addTurn_X3 tyX3 tyX3_ok nmX3 hown hK hP hD hS 0 rfl rfl 4 (by decide) (hts (.fieldLink RX3 25 "LinkedCovers$Turns" "count" "I") lk_X3_addTurn_f25) (fun _ h9 => h9) rfl (by decide +kernel) rfl rfl (Nat.le_of_ble_eq_true rfl) dX3_addTurn_47 (fun H locs hP hD hS => ?_)
      have hP : va_P (dC, dI) vwCl (ws_X3_addTurn cB cI cJ cZ a_this a_targets a_table a_rowImages a_classOf (v_count + (1 : Int32)) v_targets) H := hP
      have hD : va_D A (ws_X3_addTurn cB cI cJ cZ a_this a_targets a_table a_rowImages a_classOf (v_count + (1 : Int32)) v_targets) := hD
      refine lv_aload_n hx hb dX3_addTurn_50 rfl (lv_at hl 0 rfl) ?_
      refine va_get (D := (dC, dI)) (ci := 4) (v := .int (v_count + (1 : Int32))) (C := RX3) (T := TX3) (N := 5) hx hb hts in_X3_addTurn_X3 hown hK hP 0 rfl rfl 4 (by decide) (hts (.fieldLink RX3 25 "LinkedCovers$Turns" "count" "I") lk_X3_addTurn_f25) (fun _ h9 => h9) rfl dX3_addTurn_51 ?_
      refine lv_iconst (v := 1) hx hb dX3_addTurn_54 (by decide) ?_
      refine lv_isub hx hb dX3_addTurn_55 ?_
      have h9 := Option.some.inj hf
      have h8 := congrArg Prod.fst h9
      have h7 := congrArg Prod.snd h9
      exact W.iret (v := ((v_count + (1 : Int32)) - (1 : Int32))) hx hb hr (fun t ht hW => ⟨⟨((v_count + (1 : Int32)) - (1 : Int32)), ((v_count + (1 : Int32)), v_targets), rfl, ⟨h8, h7⟩, by rw [ht]; exact hP, va_K.moved hW.alike hK, hD⟩, hS.F ht⟩) hS.2.2 dX3_addTurn_56
    · replace hf := (if_neg c_1).symm.trans hf
      refine lv_aload_n hx hb dX3_addTurn_19 rfl (lv_at hl 0 rfl) ?_
      refine va_get (D := (dC, dI)) (ci := 4) (v := .ref a_targets) (C := RX3) (T := TX3) (N := 5) hx hb hts in_X3_addTurn_X3 hown hK hP 0 rfl rfl 1 (by decide) (hts (.fieldLink RX3 9 "LinkedCovers$Turns" "targets" "[I") lk_X3_addTurn_f9) (fun _ h9 => h9) rfl dX3_addTurn_20 ?_
      refine lv_aload_n hx hb dX3_addTurn_23 rfl (lv_at hl 0 rfl) ?_
      refine va_get (D := (dC, dI)) (ci := 4) (v := .int v_count) (C := RX3) (T := TX3) (N := 5) hx hb hts in_X3_addTurn_X3 hown hK hP 0 rfl rfl 4 (by decide) (hts (.fieldLink RX3 25 "LinkedCovers$Turns" "count" "I") lk_X3_addTurn_f25) (fun _ h9 => h9) rfl dX3_addTurn_24 ?_
      refine lv_bipush (v := 24) hx hb dX3_addTurn_27 (by decide) ?_
      refine lv_imul hx hb dX3_addTurn_29 ?_
      refine lv_iload_n hx hb dX3_addTurn_30 rfl (lv_at hl 1 rfl) ?_
      refine lv_iadd hx hb dX3_addTurn_31 ?_
      refine lv_iload_n hx hb dX3_addTurn_32 rfl (lv_at hl 1 rfl) ?_
      obtain ⟨h_2, hf⟩ := gd_ck hf
      refine va_iast hx hb hK hP hD hS 1 1 rfl rfl h_2 dX3_addTurn_33 (fun H locs hP hD hS => ?_)
      have hP : va_P (dC, dI) vwCl (ws_X3_addTurn cB cI cJ cZ a_this a_targets a_table a_rowImages a_classOf v_count (upd v_targets (Int32.toNatClampNeg ((v_count * (24 : Int32)) + x1)) x1)) H := hP
      have hD : va_D A (ws_X3_addTurn cB cI cJ cZ a_this a_targets a_table a_rowImages a_classOf v_count (upd v_targets (Int32.toNatClampNeg ((v_count * (24 : Int32)) + x1)) x1)) := hD
      refine lv_iinc (v := (x1 + 1)) (lv' := [(1, .int (x1 + 1)), (0, .ref a_this)]) hx hb dX3_addTurn_34 hl (k := 1) rfl rfl (by decide) rfl (fun ls hl => ?_)
      refine lv_goto (tgt := 13) hx hb dX3_addTurn_37 (by decide) ?_
      exact ih v_count (upd v_targets (Int32.toNatClampNeg ((v_count * (24 : Int32)) + x1)) x1) (x1 + 1) hf _ _ hP hD hS ls (lv_sub hl [1, 0] rfl)
set_option maxHeartbeats 4000000 in
set_option maxRecDepth 100000 in
theorem w_X3_addTurn_0 {p : Program} {l : Launch} {e : Env} {s : State} {m : MethodId} {args : Array Value} {below : List Frame} {meth : Method} {c : Code} {A : Nat → Prop} {dC : Nat → ClassId} {dI : Nat → Nat → Nat} {cB cI cJ cZ : ClassId} {a_this a_targets a_table a_rowImages a_classOf : Nat}  {out : Int32 × Int32 × (Nat → Int32)} (C0 : Cx RX3 cX3_addTurn (some .int) 2 wsX3_addTurn p s m args meth c A) (hK : va_K (dC, dI) vwCl (tysG cB cI cJ cZ) s)  : g_X3_addTurn_0 p l e s m args below meth c A dC dI cB cI cJ cZ a_this a_targets a_table a_rowImages a_classOf  out (f_X3_addTurn  ) := by
  obtain ⟨hx, hb, hr, hml, hown, hts, hlocks, hA⟩ := id C0
  intro v_count v_targets hf H locs hP hD hS ls hl
  replace hf : ((if v_count < (8 : Int32) then
  (f_X3_addTurn_13 1000000 v_count v_targets (0 : Int32))
  else
  (some (((-1 : Int32), (v_count, v_targets))))) : Option (Int32 × Int32 × (Nat → Int32))) = some out := hf
  refine lv_aload_n hx hb dX3_addTurn_0 rfl (lv_at hl 0 rfl) ?_
  refine va_get (D := (dC, dI)) (ci := 4) (v := .int v_count) (C := RX3) (T := TX3) (N := 5) hx hb hts in_X3_addTurn_X3 hown hK hP 0 rfl rfl 4 (by decide) (hts (.fieldLink RX3 25 "LinkedCovers$Turns" "count" "I") lk_X3_addTurn_f25) (fun _ h9 => h9) rfl dX3_addTurn_1 ?_
  refine lv_bipush (v := 8) hx hb dX3_addTurn_4 (by decide) ?_
  refine lv_icmp_lt (tgt := 11) hx hb dX3_addTurn_6 (by decide) (fun c_3 => ?_) (fun c_3 => ?_)
  · replace hf := (if_pos c_3).symm.trans hf
    refine lv_iconst (v := 0) hx hb dX3_addTurn_11 (by decide) ?_
    refine lv_istore_n (lv' := [(1, .int (0 : Int32)), (0, .ref a_this)]) hx hb dX3_addTurn_12 rfl hl (by decide) rfl (fun ls hl => ?_)
    exact w_X3_addTurn_13 C0 hK 1000000 v_count v_targets (0 : Int32) hf _ _ hP hD hS ls (lv_sub hl [1, 0] rfl)
  · replace hf := (if_neg c_3).symm.trans hf
    refine lv_iconst (v := -1) hx hb dX3_addTurn_9 (by decide) ?_
    have h9 := Option.some.inj hf
    have h8 := congrArg Prod.fst h9
    have h7 := congrArg Prod.snd h9
    exact W.iret (v := (-1 : Int32)) hx hb hr (fun t ht hW => ⟨⟨(-1 : Int32), (v_count, v_targets), rfl, ⟨h8, h7⟩, by rw [ht]; exact hP, va_K.moved hW.alike hK, hD⟩, hS.F ht⟩) hS.2.2 dX3_addTurn_10
theorem nd_X3_addTurn : yX3_addTurn.cls ≠ "java/lang/invoke/MethodHandle" ∧ yX3_addTurn.cls ≠ "java/lang/invoke/VarHandle" ∧ (parseMethodDescriptor yX3_addTurn.desc).map (fun d => d.parameters.length) = some 0 := by decide +kernel
set_option maxHeartbeats 4000000 in
set_option maxRecDepth 100000 in
theorem c_X3_addTurn (l : Launch) (dC : Nat → ClassId) (dI : Nat → Nat → Nat) (cB cI cJ cZ : ClassId) (a_this a_targets a_table a_rowImages a_classOf : Nat) (sz : Nat) (v_count : Int32) (v_targets : (Nat → Int32))  (out : Int32 × Int32 × (Nat → Int32)) (hf : f_X3_addTurn  v_count v_targets = some out) : Met l yX3_addTurn wsX3_addTurn rm_X3_addTurn (va_Pc [.ref a_this] (fun U => U.heap.size = sz ∧ va_P (dC, dI) vwCl (ws_X3_addTurn cB cI cJ cZ a_this a_targets a_table a_rowImages a_classOf v_count v_targets) U.heap ∧ va_K (dC, dI) vwCl (tysG cB cI cJ cZ) U ∧ va_D (fun _ => True) (ws_X3_addTurn cB cI cJ cZ a_this a_targets a_table a_rowImages a_classOf v_count v_targets))) (qc_X3_addTurn (va_A (ws_X3_addTurn cB cI cJ cZ a_this a_targets a_table a_rowImages a_classOf v_count v_targets) sz) dC dI cB cI cJ cZ a_this a_targets a_table a_rowImages a_classOf  out) 0 0 (va_A (ws_X3_addTurn cB cI cJ cZ a_this a_targets a_table a_rowImages a_classOf v_count v_targets) sz) := by
  refine Met.ofW (cc := cX3_addTurn) (maxL := 2) (ret := (some .int)) (by decide) rfl ?_
  intro p e s m args below meth c s₁ B hml hv
  obtain ⟨rfl, hsz, hP, hK, hD0⟩ := hv
  subst hsz
  have hD := hD0.self (sz := s.heap.size)
  generalize hAe : va_A (ws_X3_addTurn cB cI cJ cZ a_this a_targets a_table a_rowImages a_classOf v_count v_targets) s.heap.size = A at hD ⊢
  have hA : ∀ q : Nat, s.heap.size ≤ q → A q := fun q h => by rw [← hAe]; exact Or.inr h
  have hl := lv_entry ([.ref a_this]) (n := 2) (Nat.le_of_ble_eq_true rfl)
  rw [lg_entry_eq]
  generalize (lg_sl ([.ref a_this]) ++ List.replicate (2 - (lg_sl ([.ref a_this])).length) Slot.unset).toArray = ls at hl ⊢
  have hl : lv_has ls 2 [(0, .ref a_this)] := hl
  exact w_X3_addTurn_0 ⟨B.exec, B.bytes, B.returns, hml, findClass_of_methodNamed B.named, atoms_spec (ws := wsX3_addTurn) B.pre, B.notSynchronized, hA⟩ hK v_count v_targets hf _ _ hP hD va_S.rf ls (lv_sub hl [0] rfl)
-- X3.swapTargets(III)V: 31 instructions
theorem in_X3_swapTargets_X3 : ∀ w ∈ wsX30, w ∈ wsX3_swapTargets := by decide +kernel
abbrev ws_X3_swapTargets (cB cI cJ cZ : ClassId) (a_this a_targets a_table a_rowImages a_classOf : Nat) (v_count : Int32) (v_targets : (Nat → Int32)) : va_W := [(a_this, .inr (4, [.ref a_table, .ref a_targets, .ref a_rowImages, .ref a_classOf, .int v_count])), (a_targets, .inl (cI, 192, .inl v_targets))]
abbrev rm_X3_swapTargets : Room := { frames := 0, cells := 0, slots := 0, locals := 0 }
theorem lk_X3_swapTargets_f9 : Cond.fieldLink RX3 9 "LinkedCovers$Turns" "targets" "[I" ∈ wsX3_swapTargets := by decide +kernel
def f_X3_swapTargets   (v_targets : (Nat → Int32)) (x1 : Int32) (x2 : Int32) (x3 : Int32) : Option ((Nat → Int32)) :=
  if (((x1 * (24 : Int32)) + x2) < 0 ∨ 192 ≤ Int32.toNatClampNeg ((x1 * (24 : Int32)) + x2)) then none else
  if (((x1 * (24 : Int32)) + x3) < 0 ∨ 192 ≤ Int32.toNatClampNeg ((x1 * (24 : Int32)) + x3)) then none else
  if (((x1 * (24 : Int32)) + x2) < 0 ∨ 192 ≤ Int32.toNatClampNeg ((x1 * (24 : Int32)) + x2)) then none else
  if (((x1 * (24 : Int32)) + x3) < 0 ∨ 192 ≤ Int32.toNatClampNeg ((x1 * (24 : Int32)) + x3)) then none else
  some ((upd (upd v_targets (Int32.toNatClampNeg ((x1 * (24 : Int32)) + x2)) (v_targets (Int32.toNatClampNeg ((x1 * (24 : Int32)) + x3)))) (Int32.toNatClampNeg ((x1 * (24 : Int32)) + x3)) (v_targets (Int32.toNatClampNeg ((x1 * (24 : Int32)) + x2)))))
abbrev qc_X3_swapTargets (A : Nat → Prop) (dC : Nat → ClassId) (dI : Nat → Nat → Nat) (cB cI cJ cZ : ClassId) (a_this a_targets a_table a_rowImages a_classOf : Nat) (v_count : Int32) (out : (Nat → Int32)) : Array Value → State → Outcome → State → Prop := va_Qv (fun u : (Nat → Int32) => u = out) (fun (u : (Nat → Int32)) (t : State) => va_P (dC, dI) vwCl (ws_X3_swapTargets cB cI cJ cZ a_this a_targets a_table a_rowImages a_classOf v_count u) t.heap ∧ va_K (dC, dI) vwCl (tysG cB cI cJ cZ) t ∧ va_D A (ws_X3_swapTargets cB cI cJ cZ a_this a_targets a_table a_rowImages a_classOf v_count u)) A
abbrev g_X3_swapTargets_0 (p : Program) (l : Launch) (e : Env) (s : State) (m : MethodId) (args : Array Value) (below : List Frame) (meth : Method) (c : Code) (A : Nat → Prop) (dC : Nat → ClassId) (dI : Nat → Nat → Nat) (cB cI cJ cZ : ClassId) (a_this a_targets a_table a_rowImages a_classOf : Nat) (v_count : Int32) (out : (Nat → Int32)) (k : (Nat → Int32) → Int32 → Int32 → Int32 → Option ((Nat → Int32))) : Prop := ∀ (v_targets : (Nat → Int32)) (x1 : Int32) (x2 : Int32) (x3 : Int32), k v_targets x1 x2 x3 = some out → ∀ (H : Heap) (locs : List Loc), va_P (dC, dI) vwCl (ws_X3_swapTargets cB cI cJ cZ a_this a_targets a_table a_rowImages a_classOf v_count v_targets) H → va_D A (ws_X3_swapTargets cB cI cJ cZ a_this a_targets a_table a_rowImages a_classOf v_count v_targets) → va_S A s.heap H locs → ∀ (ls : Array Slot), lv_has ls 7 [(0, .ref a_this), (1, .int x1), (2, .int x2), (3, .int x3)] → W p l e (headSpec wsX3_swapTargets rm_X3_swapTargets).room s m args below meth c H locs 0 0 (MQ below (qc_X3_swapTargets A dC dI cB cI cJ cZ a_this a_targets a_table a_rowImages a_classOf v_count out) args s 0 0 A) (F0 m 0 ls [])
set_option maxHeartbeats 4000000 in
set_option maxRecDepth 100000 in
theorem w_X3_swapTargets_0 {p : Program} {l : Launch} {e : Env} {s : State} {m : MethodId} {args : Array Value} {below : List Frame} {meth : Method} {c : Code} {A : Nat → Prop} {dC : Nat → ClassId} {dI : Nat → Nat → Nat} {cB cI cJ cZ : ClassId} {a_this a_targets a_table a_rowImages a_classOf : Nat} {v_count : Int32} {out : (Nat → Int32)} (C0 : Cx RX3 cX3_swapTargets none 7 wsX3_swapTargets p s m args meth c A) (hK : va_K (dC, dI) vwCl (tysG cB cI cJ cZ) s)  : g_X3_swapTargets_0 p l e s m args below meth c A dC dI cB cI cJ cZ a_this a_targets a_table a_rowImages a_classOf v_count out (f_X3_swapTargets  ) := by
  obtain ⟨hx, hb, hr, hml, hown, hts, hlocks, hA⟩ := id C0
  intro v_targets x1 x2 x3 hf H locs hP hD hS ls hl
  replace hf : ((if (((x1 * (24 : Int32)) + x2) < 0 ∨ 192 ≤ Int32.toNatClampNeg ((x1 * (24 : Int32)) + x2)) then none else
  if (((x1 * (24 : Int32)) + x3) < 0 ∨ 192 ≤ Int32.toNatClampNeg ((x1 * (24 : Int32)) + x3)) then none else
  if (((x1 * (24 : Int32)) + x2) < 0 ∨ 192 ≤ Int32.toNatClampNeg ((x1 * (24 : Int32)) + x2)) then none else
  if (((x1 * (24 : Int32)) + x3) < 0 ∨ 192 ≤ Int32.toNatClampNeg ((x1 * (24 : Int32)) + x3)) then none else
  some ((upd (upd v_targets (Int32.toNatClampNeg ((x1 * (24 : Int32)) + x2)) (v_targets (Int32.toNatClampNeg ((x1 * (24 : Int32)) + x3)))) (Int32.toNatClampNeg ((x1 * (24 : Int32)) + x3)) (v_targets (Int32.toNatClampNeg ((x1 * (24 : Int32)) + x2)))))) : Option ((Nat → Int32))) = some out := hf
  refine lv_iload_n hx hb dX3_swapTargets_0 rfl (lv_at hl 1 rfl) ?_
  refine lv_bipush (v := 24) hx hb dX3_swapTargets_1 (by decide) ?_
  refine lv_imul hx hb dX3_swapTargets_3 ?_
  refine lv_iload_n hx hb dX3_swapTargets_4 rfl (lv_at hl 2 rfl) ?_
  refine lv_iadd hx hb dX3_swapTargets_5 ?_
  refine lv_istore (lv' := [(4, .int ((x1 * (24 : Int32)) + x2)), (0, .ref a_this), (1, .int x1), (2, .int x2), (3, .int x3)]) hx hb dX3_swapTargets_6 hl (by decide) rfl (fun ls hl => ?_)
  refine lv_iload_n hx hb dX3_swapTargets_8 rfl (lv_at hl 2 rfl) ?_
  refine lv_bipush (v := 24) hx hb dX3_swapTargets_9 (by decide) ?_
  refine lv_imul hx hb dX3_swapTargets_11 ?_
  refine lv_iload_n hx hb dX3_swapTargets_12 rfl (lv_at hl 4 rfl) ?_
  refine lv_iadd hx hb dX3_swapTargets_13 ?_
  refine lv_istore (lv' := [(5, .int ((x1 * (24 : Int32)) + x3)), (4, .int ((x1 * (24 : Int32)) + x2)), (0, .ref a_this), (1, .int x1), (2, .int x2), (3, .int x3)]) hx hb dX3_swapTargets_14 hl (by decide) rfl (fun ls hl => ?_)
  refine lv_aload_n hx hb dX3_swapTargets_16 rfl (lv_at hl 2 rfl) ?_
  refine va_get (D := (dC, dI)) (ci := 4) (v := .ref a_targets) (C := RX3) (T := TX3) (N := 5) hx hb hts in_X3_swapTargets_X3 hown hK hP 0 rfl rfl 1 (by decide) (hts (.fieldLink RX3 9 "LinkedCovers$Turns" "targets" "[I") lk_X3_swapTargets_f9) (fun _ h9 => h9) rfl dX3_swapTargets_17 ?_
  refine lv_iload hx hb dX3_swapTargets_20 (lv_at hl 1 rfl) ?_
  obtain ⟨h_1, hf⟩ := gd_ck hf
  refine va_iald hx hb hK hP 1 1 rfl rfl h_1 dX3_swapTargets_22 ?_
  refine lv_istore (lv' := [(6, .int (v_targets (Int32.toNatClampNeg ((x1 * (24 : Int32)) + x2)))), (5, .int ((x1 * (24 : Int32)) + x3)), (4, .int ((x1 * (24 : Int32)) + x2)), (0, .ref a_this), (1, .int x1), (2, .int x2), (3, .int x3)]) hx hb dX3_swapTargets_23 hl (by decide) rfl (fun ls hl => ?_)
  refine lv_aload_n hx hb dX3_swapTargets_25 rfl (lv_at hl 3 rfl) ?_
  refine va_get (D := (dC, dI)) (ci := 4) (v := .ref a_targets) (C := RX3) (T := TX3) (N := 5) hx hb hts in_X3_swapTargets_X3 hown hK hP 0 rfl rfl 1 (by decide) (hts (.fieldLink RX3 9 "LinkedCovers$Turns" "targets" "[I") lk_X3_swapTargets_f9) (fun _ h9 => h9) rfl dX3_swapTargets_26 ?_
  refine lv_iload hx hb dX3_swapTargets_29 (lv_at hl 2 rfl) ?_
  refine lv_aload_n hx hb dX3_swapTargets_31 rfl (lv_at hl 3 rfl) ?_
  refine va_get (D := (dC, dI)) (ci := 4) (v := .ref a_targets) (C := RX3) (T := TX3) (N := 5) hx hb hts in_X3_swapTargets_X3 hown hK hP 0 rfl rfl 1 (by decide) (hts (.fieldLink RX3 9 "LinkedCovers$Turns" "targets" "[I") lk_X3_swapTargets_f9) (fun _ h9 => h9) rfl dX3_swapTargets_32 ?_
  refine lv_iload hx hb dX3_swapTargets_35 (lv_at hl 1 rfl) ?_
  obtain ⟨h_2, hf⟩ := gd_ck hf
  refine va_iald hx hb hK hP 1 1 rfl rfl h_2 dX3_swapTargets_37 ?_
  obtain ⟨h_3, hf⟩ := gd_ck hf
  refine va_iast hx hb hK hP hD hS 1 1 rfl rfl h_3 dX3_swapTargets_38 (fun H locs hP hD hS => ?_)
  have hP : va_P (dC, dI) vwCl (ws_X3_swapTargets cB cI cJ cZ a_this a_targets a_table a_rowImages a_classOf v_count (upd v_targets (Int32.toNatClampNeg ((x1 * (24 : Int32)) + x2)) (v_targets (Int32.toNatClampNeg ((x1 * (24 : Int32)) + x3))))) H := hP
  have hD : va_D A (ws_X3_swapTargets cB cI cJ cZ a_this a_targets a_table a_rowImages a_classOf v_count (upd v_targets (Int32.toNatClampNeg ((x1 * (24 : Int32)) + x2)) (v_targets (Int32.toNatClampNeg ((x1 * (24 : Int32)) + x3))))) := hD
  refine lv_aload_n hx hb dX3_swapTargets_39 rfl (lv_at hl 3 rfl) ?_
  refine va_get (D := (dC, dI)) (ci := 4) (v := .ref a_targets) (C := RX3) (T := TX3) (N := 5) hx hb hts in_X3_swapTargets_X3 hown hK hP 0 rfl rfl 1 (by decide) (hts (.fieldLink RX3 9 "LinkedCovers$Turns" "targets" "[I") lk_X3_swapTargets_f9) (fun _ h9 => h9) rfl dX3_swapTargets_40 ?_
  refine lv_iload hx hb dX3_swapTargets_43 (lv_at hl 1 rfl) ?_
  refine lv_iload hx hb dX3_swapTargets_45 (lv_at hl 0 rfl) ?_
  obtain ⟨h_4, hf⟩ := gd_ck hf
  refine va_iast hx hb hK hP hD hS 1 1 rfl rfl h_4 dX3_swapTargets_47 (fun H locs hP hD hS => ?_)
  have hP : va_P (dC, dI) vwCl (ws_X3_swapTargets cB cI cJ cZ a_this a_targets a_table a_rowImages a_classOf v_count (upd (upd v_targets (Int32.toNatClampNeg ((x1 * (24 : Int32)) + x2)) (v_targets (Int32.toNatClampNeg ((x1 * (24 : Int32)) + x3)))) (Int32.toNatClampNeg ((x1 * (24 : Int32)) + x3)) (v_targets (Int32.toNatClampNeg ((x1 * (24 : Int32)) + x2))))) H := hP
  have hD : va_D A (ws_X3_swapTargets cB cI cJ cZ a_this a_targets a_table a_rowImages a_classOf v_count (upd (upd v_targets (Int32.toNatClampNeg ((x1 * (24 : Int32)) + x2)) (v_targets (Int32.toNatClampNeg ((x1 * (24 : Int32)) + x3)))) (Int32.toNatClampNeg ((x1 * (24 : Int32)) + x3)) (v_targets (Int32.toNatClampNeg ((x1 * (24 : Int32)) + x2))))) := hD
  exact W.vret hx hb hr (fun t ht hW => ⟨⟨(upd (upd v_targets (Int32.toNatClampNeg ((x1 * (24 : Int32)) + x2)) (v_targets (Int32.toNatClampNeg ((x1 * (24 : Int32)) + x3)))) (Int32.toNatClampNeg ((x1 * (24 : Int32)) + x3)) (v_targets (Int32.toNatClampNeg ((x1 * (24 : Int32)) + x2)))), rfl, Option.some.inj hf, by rw [ht]; exact hP, va_K.moved hW.alike hK, hD⟩, hS.F ht⟩) hS.2.2 dX3_swapTargets_48
theorem nd_X3_swapTargets : yX3_swapTargets.cls ≠ "java/lang/invoke/MethodHandle" ∧ yX3_swapTargets.cls ≠ "java/lang/invoke/VarHandle" ∧ (parseMethodDescriptor yX3_swapTargets.desc).map (fun d => d.parameters.length) = some 3 := by decide +kernel
set_option maxHeartbeats 4000000 in
set_option maxRecDepth 100000 in
theorem c_X3_swapTargets (l : Launch) (dC : Nat → ClassId) (dI : Nat → Nat → Nat) (cB cI cJ cZ : ClassId) (a_this a_targets a_table a_rowImages a_classOf : Nat) (sz : Nat) (v_count : Int32) (v_targets : (Nat → Int32)) (x1 : Int32) (x2 : Int32) (x3 : Int32) (out : (Nat → Int32)) (hf : f_X3_swapTargets  v_targets x1 x2 x3 = some out) : Met l yX3_swapTargets wsX3_swapTargets rm_X3_swapTargets (va_Pc [.ref a_this, .int x1, .int x2, .int x3] (fun U => U.heap.size = sz ∧ va_P (dC, dI) vwCl (ws_X3_swapTargets cB cI cJ cZ a_this a_targets a_table a_rowImages a_classOf v_count v_targets) U.heap ∧ va_K (dC, dI) vwCl (tysG cB cI cJ cZ) U ∧ va_D (fun _ => True) (ws_X3_swapTargets cB cI cJ cZ a_this a_targets a_table a_rowImages a_classOf v_count v_targets))) (qc_X3_swapTargets (va_A (ws_X3_swapTargets cB cI cJ cZ a_this a_targets a_table a_rowImages a_classOf v_count v_targets) sz) dC dI cB cI cJ cZ a_this a_targets a_table a_rowImages a_classOf v_count out) 0 0 (va_A (ws_X3_swapTargets cB cI cJ cZ a_this a_targets a_table a_rowImages a_classOf v_count v_targets) sz) := by
  refine Met.ofW (cc := cX3_swapTargets) (maxL := 7) (ret := none) (by decide) rfl ?_
  intro p e s m args below meth c s₁ B hml hv
  obtain ⟨rfl, hsz, hP, hK, hD0⟩ := hv
  subst hsz
  have hD := hD0.self (sz := s.heap.size)
  generalize hAe : va_A (ws_X3_swapTargets cB cI cJ cZ a_this a_targets a_table a_rowImages a_classOf v_count v_targets) s.heap.size = A at hD ⊢
  have hA : ∀ q : Nat, s.heap.size ≤ q → A q := fun q h => by rw [← hAe]; exact Or.inr h
  have hl := lv_entry ([.ref a_this, .int x1, .int x2, .int x3]) (n := 7) (Nat.le_of_ble_eq_true rfl)
  rw [lg_entry_eq]
  generalize (lg_sl ([.ref a_this, .int x1, .int x2, .int x3]) ++ List.replicate (7 - (lg_sl ([.ref a_this, .int x1, .int x2, .int x3])).length) Slot.unset).toArray = ls at hl ⊢
  have hl : lv_has ls 7 [(0, .ref a_this), (1, .int x1), (2, .int x2), (3, .int x3)] := hl
  exact w_X3_swapTargets_0 ⟨B.exec, B.bytes, B.returns, hml, findClass_of_methodNamed B.named, atoms_spec (ws := wsX3_swapTargets) B.pre, B.notSynchronized, hA⟩ hK v_targets x1 x2 x3 hf _ _ hP hD va_S.rf ls (lv_sub hl [0, 1, 2, 3] rfl)
-- X3.keepsColumns(I)Z: 31 instructions
theorem in_X3_keepsColumns_X2 : ∀ w ∈ wsX20, w ∈ wsX3_keepsColumns := by decide +kernel
theorem in_X3_keepsColumns_X3 : ∀ w ∈ wsX30, w ∈ wsX3_keepsColumns := by decide +kernel
abbrev ws_X3_keepsColumns (cB cI cJ cZ : ClassId) (a_this a_table a_table_due a_targets a_rowImages a_classOf a_table_columnsOf a_table_colours a_table_rowsOf a_table_clashesOf : Nat) (v_count : Int32) (v_table_columnCount : Int32) (v_table_neededCount : Int32) (v_table_rowCount : Int32) (v_table_due : (Nat → Int32)) (v_targets : (Nat → Int32)) : va_W := [(a_this, .inr (4, [.ref a_table, .ref a_targets, .ref a_rowImages, .ref a_classOf, .int v_count])), (a_table, .inr (3, [.int v_table_columnCount, .int v_table_neededCount, .ref a_table_due, .ref a_table_columnsOf, .ref a_table_colours, .ref a_table_rowsOf, .ref a_table_clashesOf, .int v_table_rowCount])), (a_table_due, .inl (cI, 24, .inl v_table_due)), (a_targets, .inl (cI, 192, .inl v_targets))]
abbrev rm_X3_keepsColumns : Room := { frames := 0, cells := 0, slots := 0, locals := 0 }
theorem lk_X3_keepsColumns_f21 : Cond.fieldLink RX3 21 "LinkedCovers$Turns" "table" "LLinkedCovers$Table;" ∈ wsX3_keepsColumns := by decide +kernel
theorem lk_X3_keepsColumns_f36 : Cond.fieldLink RX3 36 "LinkedCovers$Table" "columnCount" "I" ∈ wsX3_keepsColumns := by decide +kernel
theorem lk_X3_keepsColumns_f41 : Cond.fieldLink RX3 41 "LinkedCovers$Table" "due" "[I" ∈ wsX3_keepsColumns := by decide +kernel
theorem lk_X3_keepsColumns_f9 : Cond.fieldLink RX3 9 "LinkedCovers$Turns" "targets" "[I" ∈ wsX3_keepsColumns := by decide +kernel
def f_X3_keepsColumns_2 (v_table_columnCount : Int32) (v_table_due : (Nat → Int32)) (v_targets : (Nat → Int32))  : Nat → Int32 → Int32 → Option (Int32 × Unit)
  | 0 => fun _ _ => none
  | n + 1 => fun x1 x2 => if v_table_columnCount ≤ x2 then
  (some (((1 : Int32), ())))
  else
  (if (x2 < 0 ∨ 24 ≤ Int32.toNatClampNeg x2) then none else
  if (((x1 * (24 : Int32)) + x2) < 0 ∨ 192 ≤ Int32.toNatClampNeg ((x1 * (24 : Int32)) + x2)) then none else
  if ((v_targets (Int32.toNatClampNeg ((x1 * (24 : Int32)) + x2))) < 0 ∨ 24 ≤ Int32.toNatClampNeg (v_targets (Int32.toNatClampNeg ((x1 * (24 : Int32)) + x2)))) then none else
  if (v_table_due (Int32.toNatClampNeg x2)) = (v_table_due (Int32.toNatClampNeg (v_targets (Int32.toNatClampNeg ((x1 * (24 : Int32)) + x2))))) then
  (f_X3_keepsColumns_2 v_table_columnCount v_table_due v_targets n x1 (x2 + 1))
  else
  (some (((0 : Int32), ()))))
def f_X3_keepsColumns (v_table_columnCount : Int32) (v_table_due : (Nat → Int32)) (v_targets : (Nat → Int32))  (x1 : Int32) : Option (Int32 × Unit) :=
  f_X3_keepsColumns_2 v_table_columnCount v_table_due v_targets 1000000 x1 (0 : Int32)
abbrev qc_X3_keepsColumns (A : Nat → Prop) (dC : Nat → ClassId) (dI : Nat → Nat → Nat) (cB cI cJ cZ : ClassId) (a_this a_table a_table_due a_targets a_rowImages a_classOf a_table_columnsOf a_table_colours a_table_rowsOf a_table_clashesOf : Nat) (v_count : Int32) (v_table_columnCount : Int32) (v_table_neededCount : Int32) (v_table_rowCount : Int32) (v_table_due : (Nat → Int32)) (v_targets : (Nat → Int32)) (out : Int32 × Unit) : Array Value → State → Outcome → State → Prop := va_Qi (fun (r : Int32) (u : Unit) => r = out.1 ∧ u = out.2) (fun (u : Unit) (t : State) => va_P (dC, dI) vwCl (ws_X3_keepsColumns cB cI cJ cZ a_this a_table a_table_due a_targets a_rowImages a_classOf a_table_columnsOf a_table_colours a_table_rowsOf a_table_clashesOf v_count v_table_columnCount v_table_neededCount v_table_rowCount v_table_due v_targets) t.heap ∧ va_K (dC, dI) vwCl (tysG cB cI cJ cZ) t ∧ va_D A (ws_X3_keepsColumns cB cI cJ cZ a_this a_table a_table_due a_targets a_rowImages a_classOf a_table_columnsOf a_table_colours a_table_rowsOf a_table_clashesOf v_count v_table_columnCount v_table_neededCount v_table_rowCount v_table_due v_targets)) A
abbrev g_X3_keepsColumns_2 (p : Program) (l : Launch) (e : Env) (s : State) (m : MethodId) (args : Array Value) (below : List Frame) (meth : Method) (c : Code) (A : Nat → Prop) (dC : Nat → ClassId) (dI : Nat → Nat → Nat) (cB cI cJ cZ : ClassId) (a_this a_table a_table_due a_targets a_rowImages a_classOf a_table_columnsOf a_table_colours a_table_rowsOf a_table_clashesOf : Nat) (v_count : Int32) (v_table_columnCount : Int32) (v_table_neededCount : Int32) (v_table_rowCount : Int32) (v_table_due : (Nat → Int32)) (v_targets : (Nat → Int32)) (out : Int32 × Unit) (k : Int32 → Int32 → Option (Int32 × Unit)) : Prop := ∀ (x1 : Int32) (x2 : Int32), k x1 x2 = some out → ∀ (H : Heap) (locs : List Loc), va_P (dC, dI) vwCl (ws_X3_keepsColumns cB cI cJ cZ a_this a_table a_table_due a_targets a_rowImages a_classOf a_table_columnsOf a_table_colours a_table_rowsOf a_table_clashesOf v_count v_table_columnCount v_table_neededCount v_table_rowCount v_table_due v_targets) H → va_D A (ws_X3_keepsColumns cB cI cJ cZ a_this a_table a_table_due a_targets a_rowImages a_classOf a_table_columnsOf a_table_colours a_table_rowsOf a_table_clashesOf v_count v_table_columnCount v_table_neededCount v_table_rowCount v_table_due v_targets) → va_S A s.heap H locs → ∀ (ls : Array Slot), lv_has ls 3 [(0, .ref a_this), (1, .int x1), (2, .int x2)] → W p l e (headSpec wsX3_keepsColumns rm_X3_keepsColumns).room s m args below meth c H locs 0 0 (MQ below (qc_X3_keepsColumns A dC dI cB cI cJ cZ a_this a_table a_table_due a_targets a_rowImages a_classOf a_table_columnsOf a_table_colours a_table_rowsOf a_table_clashesOf v_count v_table_columnCount v_table_neededCount v_table_rowCount v_table_due v_targets out) args s 0 0 A) (F0 m 2 ls [])
abbrev g_X3_keepsColumns_0 (p : Program) (l : Launch) (e : Env) (s : State) (m : MethodId) (args : Array Value) (below : List Frame) (meth : Method) (c : Code) (A : Nat → Prop) (dC : Nat → ClassId) (dI : Nat → Nat → Nat) (cB cI cJ cZ : ClassId) (a_this a_table a_table_due a_targets a_rowImages a_classOf a_table_columnsOf a_table_colours a_table_rowsOf a_table_clashesOf : Nat) (v_count : Int32) (v_table_columnCount : Int32) (v_table_neededCount : Int32) (v_table_rowCount : Int32) (v_table_due : (Nat → Int32)) (v_targets : (Nat → Int32)) (out : Int32 × Unit) (k : Int32 → Option (Int32 × Unit)) : Prop := ∀ (x1 : Int32), k x1 = some out → ∀ (H : Heap) (locs : List Loc), va_P (dC, dI) vwCl (ws_X3_keepsColumns cB cI cJ cZ a_this a_table a_table_due a_targets a_rowImages a_classOf a_table_columnsOf a_table_colours a_table_rowsOf a_table_clashesOf v_count v_table_columnCount v_table_neededCount v_table_rowCount v_table_due v_targets) H → va_D A (ws_X3_keepsColumns cB cI cJ cZ a_this a_table a_table_due a_targets a_rowImages a_classOf a_table_columnsOf a_table_colours a_table_rowsOf a_table_clashesOf v_count v_table_columnCount v_table_neededCount v_table_rowCount v_table_due v_targets) → va_S A s.heap H locs → ∀ (ls : Array Slot), lv_has ls 3 [(0, .ref a_this), (1, .int x1)] → W p l e (headSpec wsX3_keepsColumns rm_X3_keepsColumns).room s m args below meth c H locs 0 0 (MQ below (qc_X3_keepsColumns A dC dI cB cI cJ cZ a_this a_table a_table_due a_targets a_rowImages a_classOf a_table_columnsOf a_table_colours a_table_rowsOf a_table_clashesOf v_count v_table_columnCount v_table_neededCount v_table_rowCount v_table_due v_targets out) args s 0 0 A) (F0 m 0 ls [])
set_option maxHeartbeats 4000000 in
set_option maxRecDepth 100000 in
theorem w_X3_keepsColumns_2 {p : Program} {l : Launch} {e : Env} {s : State} {m : MethodId} {args : Array Value} {below : List Frame} {meth : Method} {c : Code} {A : Nat → Prop} {dC : Nat → ClassId} {dI : Nat → Nat → Nat} {cB cI cJ cZ : ClassId} {a_this a_table a_table_due a_targets a_rowImages a_classOf a_table_columnsOf a_table_colours a_table_rowsOf a_table_clashesOf : Nat} {v_count : Int32} {v_table_columnCount : Int32} {v_table_neededCount : Int32} {v_table_rowCount : Int32} {v_table_due : (Nat → Int32)} {v_targets : (Nat → Int32)} {out : Int32 × Unit} (C0 : Cx RX3 cX3_keepsColumns (some .boolean) 3 wsX3_keepsColumns p s m args meth c A) (hK : va_K (dC, dI) vwCl (tysG cB cI cJ cZ) s)  : ∀ n : Nat, g_X3_keepsColumns_2 p l e s m args below meth c A dC dI cB cI cJ cZ a_this a_table a_table_due a_targets a_rowImages a_classOf a_table_columnsOf a_table_colours a_table_rowsOf a_table_clashesOf v_count v_table_columnCount v_table_neededCount v_table_rowCount v_table_due v_targets out (f_X3_keepsColumns_2 v_table_columnCount v_table_due v_targets  n) := by
  obtain ⟨hx, hb, hr, hml, hown, hts, hlocks, hA⟩ := id C0
  intro n
  induction n with
  | zero =>
    intro x1 x2 hf H locs hP hD hS ls hl
    exact nomatch (show (none : Option (Int32 × Unit)) = some out from hf)
  | succ n ih =>
    intro x1 x2 hf H locs hP hD hS ls hl
    replace hf : ((if v_table_columnCount ≤ x2 then
  (some (((1 : Int32), ())))
  else
  (if (x2 < 0 ∨ 24 ≤ Int32.toNatClampNeg x2) then none else
  if (((x1 * (24 : Int32)) + x2) < 0 ∨ 192 ≤ Int32.toNatClampNeg ((x1 * (24 : Int32)) + x2)) then none else
  if ((v_targets (Int32.toNatClampNeg ((x1 * (24 : Int32)) + x2))) < 0 ∨ 24 ≤ Int32.toNatClampNeg (v_targets (Int32.toNatClampNeg ((x1 * (24 : Int32)) + x2)))) then none else
  if (v_table_due (Int32.toNatClampNeg x2)) = (v_table_due (Int32.toNatClampNeg (v_targets (Int32.toNatClampNeg ((x1 * (24 : Int32)) + x2))))) then
  (f_X3_keepsColumns_2 v_table_columnCount v_table_due v_targets n x1 (x2 + 1))
  else
  (some (((0 : Int32), ()))))) : Option (Int32 × Unit)) = some out := hf
    refine lv_iload_n hx hb dX3_keepsColumns_2 rfl (lv_at hl 2 rfl) ?_
    refine lv_aload_n hx hb dX3_keepsColumns_3 rfl (lv_at hl 0 rfl) ?_
    refine va_get (D := (dC, dI)) (ci := 4) (v := .ref a_table) (C := RX3) (T := TX3) (N := 5) hx hb hts in_X3_keepsColumns_X3 hown hK hP 0 rfl rfl 0 (by decide) (hts (.fieldLink RX3 21 "LinkedCovers$Turns" "table" "LLinkedCovers$Table;") lk_X3_keepsColumns_f21) (fun _ h9 => h9) rfl dX3_keepsColumns_4 ?_
    refine va_get (D := (dC, dI)) (ci := 3) (v := .int v_table_columnCount) (C := RX2) (T := TX2) (N := 8) hx hb hts in_X3_keepsColumns_X2 hown hK hP 1 rfl rfl 0 (by decide) (hts (.fieldLink RX3 36 "LinkedCovers$Table" "columnCount" "I") lk_X3_keepsColumns_f36) (fun _ h9 => h9) rfl dX3_keepsColumns_7 ?_
    refine lv_icmp_ge (tgt := 52) hx hb dX3_keepsColumns_10 (by decide) (fun c_1 => ?_) (fun c_1 => ?_)
    · replace hf := (if_pos c_1).symm.trans hf
      refine lv_iconst (v := 1) hx hb dX3_keepsColumns_52 (by decide) ?_
      have h9 := Option.some.inj hf
      have h8 := congrArg Prod.fst h9
      have h7 := congrArg Prod.snd h9
      exact W.zret (v := (1 : Int32)) hx hb hr rfl (fun t ht hW => ⟨⟨(1 : Int32), (), rfl, ⟨h8, h7⟩, by rw [ht]; exact hP, va_K.moved hW.alike hK, hD⟩, hS.F ht⟩) hS.2.2 dX3_keepsColumns_53
    · replace hf := (if_neg c_1).symm.trans hf
      refine lv_aload_n hx hb dX3_keepsColumns_13 rfl (lv_at hl 0 rfl) ?_
      refine va_get (D := (dC, dI)) (ci := 4) (v := .ref a_table) (C := RX3) (T := TX3) (N := 5) hx hb hts in_X3_keepsColumns_X3 hown hK hP 0 rfl rfl 0 (by decide) (hts (.fieldLink RX3 21 "LinkedCovers$Turns" "table" "LLinkedCovers$Table;") lk_X3_keepsColumns_f21) (fun _ h9 => h9) rfl dX3_keepsColumns_14 ?_
      refine va_get (D := (dC, dI)) (ci := 3) (v := .ref a_table_due) (C := RX2) (T := TX2) (N := 8) hx hb hts in_X3_keepsColumns_X2 hown hK hP 1 rfl rfl 2 (by decide) (hts (.fieldLink RX3 41 "LinkedCovers$Table" "due" "[I") lk_X3_keepsColumns_f41) (fun _ h9 => h9) rfl dX3_keepsColumns_17 ?_
      refine lv_iload_n hx hb dX3_keepsColumns_20 rfl (lv_at hl 2 rfl) ?_
      obtain ⟨h_2, hf⟩ := gd_ck hf
      refine va_iald hx hb hK hP 2 1 rfl rfl h_2 dX3_keepsColumns_21 ?_
      refine lv_aload_n hx hb dX3_keepsColumns_22 rfl (lv_at hl 0 rfl) ?_
      refine va_get (D := (dC, dI)) (ci := 4) (v := .ref a_table) (C := RX3) (T := TX3) (N := 5) hx hb hts in_X3_keepsColumns_X3 hown hK hP 0 rfl rfl 0 (by decide) (hts (.fieldLink RX3 21 "LinkedCovers$Turns" "table" "LLinkedCovers$Table;") lk_X3_keepsColumns_f21) (fun _ h9 => h9) rfl dX3_keepsColumns_23 ?_
      refine va_get (D := (dC, dI)) (ci := 3) (v := .ref a_table_due) (C := RX2) (T := TX2) (N := 8) hx hb hts in_X3_keepsColumns_X2 hown hK hP 1 rfl rfl 2 (by decide) (hts (.fieldLink RX3 41 "LinkedCovers$Table" "due" "[I") lk_X3_keepsColumns_f41) (fun _ h9 => h9) rfl dX3_keepsColumns_26 ?_
      refine lv_aload_n hx hb dX3_keepsColumns_29 rfl (lv_at hl 0 rfl) ?_
      refine va_get (D := (dC, dI)) (ci := 4) (v := .ref a_targets) (C := RX3) (T := TX3) (N := 5) hx hb hts in_X3_keepsColumns_X3 hown hK hP 0 rfl rfl 1 (by decide) (hts (.fieldLink RX3 9 "LinkedCovers$Turns" "targets" "[I") lk_X3_keepsColumns_f9) (fun _ h9 => h9) rfl dX3_keepsColumns_30 ?_
      refine lv_iload_n hx hb dX3_keepsColumns_33 rfl (lv_at hl 1 rfl) ?_
      refine lv_bipush (v := 24) hx hb dX3_keepsColumns_34 (by decide) ?_
      refine lv_imul hx hb dX3_keepsColumns_36 ?_
      refine lv_iload_n hx hb dX3_keepsColumns_37 rfl (lv_at hl 2 rfl) ?_
      refine lv_iadd hx hb dX3_keepsColumns_38 ?_
      obtain ⟨h_3, hf⟩ := gd_ck hf
      refine va_iald hx hb hK hP 3 1 rfl rfl h_3 dX3_keepsColumns_39 ?_
      obtain ⟨h_4, hf⟩ := gd_ck hf
      refine va_iald hx hb hK hP 2 1 rfl rfl h_4 dX3_keepsColumns_40 ?_
      refine lv_icmp_eq (tgt := 46) hx hb dX3_keepsColumns_41 (by decide) (fun c_5 => ?_) (fun c_5 => ?_)
      · replace hf := (if_pos c_5).symm.trans hf
        refine lv_iinc (v := (x2 + 1)) (lv' := [(2, .int (x2 + 1)), (0, .ref a_this), (1, .int x1)]) hx hb dX3_keepsColumns_46 hl (k := 2) rfl rfl (by decide) rfl (fun ls hl => ?_)
        refine lv_goto (tgt := 2) hx hb dX3_keepsColumns_49 (by decide) ?_
        exact ih x1 (x2 + 1) hf _ _ hP hD hS ls (lv_sub hl [1, 2, 0] rfl)
      · replace hf := (if_neg c_5).symm.trans hf
        refine lv_iconst (v := 0) hx hb dX3_keepsColumns_44 (by decide) ?_
        have h9 := Option.some.inj hf
        have h8 := congrArg Prod.fst h9
        have h7 := congrArg Prod.snd h9
        exact W.zret (v := (0 : Int32)) hx hb hr rfl (fun t ht hW => ⟨⟨(0 : Int32), (), rfl, ⟨h8, h7⟩, by rw [ht]; exact hP, va_K.moved hW.alike hK, hD⟩, hS.F ht⟩) hS.2.2 dX3_keepsColumns_45
set_option maxHeartbeats 4000000 in
set_option maxRecDepth 100000 in
theorem w_X3_keepsColumns_0 {p : Program} {l : Launch} {e : Env} {s : State} {m : MethodId} {args : Array Value} {below : List Frame} {meth : Method} {c : Code} {A : Nat → Prop} {dC : Nat → ClassId} {dI : Nat → Nat → Nat} {cB cI cJ cZ : ClassId} {a_this a_table a_table_due a_targets a_rowImages a_classOf a_table_columnsOf a_table_colours a_table_rowsOf a_table_clashesOf : Nat} {v_count : Int32} {v_table_columnCount : Int32} {v_table_neededCount : Int32} {v_table_rowCount : Int32} {v_table_due : (Nat → Int32)} {v_targets : (Nat → Int32)} {out : Int32 × Unit} (C0 : Cx RX3 cX3_keepsColumns (some .boolean) 3 wsX3_keepsColumns p s m args meth c A) (hK : va_K (dC, dI) vwCl (tysG cB cI cJ cZ) s)  : g_X3_keepsColumns_0 p l e s m args below meth c A dC dI cB cI cJ cZ a_this a_table a_table_due a_targets a_rowImages a_classOf a_table_columnsOf a_table_colours a_table_rowsOf a_table_clashesOf v_count v_table_columnCount v_table_neededCount v_table_rowCount v_table_due v_targets out (f_X3_keepsColumns v_table_columnCount v_table_due v_targets ) := by
  obtain ⟨hx, hb, hr, hml, hown, hts, hlocks, hA⟩ := id C0
  intro x1 hf H locs hP hD hS ls hl
  replace hf : ((f_X3_keepsColumns_2 v_table_columnCount v_table_due v_targets 1000000 x1 (0 : Int32)) : Option (Int32 × Unit)) = some out := hf
  refine lv_iconst (v := 0) hx hb dX3_keepsColumns_0 (by decide) ?_
  refine lv_istore_n (lv' := [(2, .int (0 : Int32)), (0, .ref a_this), (1, .int x1)]) hx hb dX3_keepsColumns_1 rfl hl (by decide) rfl (fun ls hl => ?_)
  exact w_X3_keepsColumns_2 C0 hK 1000000 x1 (0 : Int32) hf _ _ hP hD hS ls (lv_sub hl [1, 2, 0] rfl)
theorem nd_X3_keepsColumns : yX3_keepsColumns.cls ≠ "java/lang/invoke/MethodHandle" ∧ yX3_keepsColumns.cls ≠ "java/lang/invoke/VarHandle" ∧ (parseMethodDescriptor yX3_keepsColumns.desc).map (fun d => d.parameters.length) = some 1 := by decide +kernel
set_option maxHeartbeats 4000000 in
set_option maxRecDepth 100000 in
theorem c_X3_keepsColumns (l : Launch) (dC : Nat → ClassId) (dI : Nat → Nat → Nat) (cB cI cJ cZ : ClassId) (a_this a_table a_table_due a_targets a_rowImages a_classOf a_table_columnsOf a_table_colours a_table_rowsOf a_table_clashesOf : Nat) (sz : Nat) (v_count : Int32) (v_table_columnCount : Int32) (v_table_neededCount : Int32) (v_table_rowCount : Int32) (v_table_due : (Nat → Int32)) (v_targets : (Nat → Int32)) (x1 : Int32) (out : Int32 × Unit) (hf : f_X3_keepsColumns v_table_columnCount v_table_due v_targets x1 = some out) : Met l yX3_keepsColumns wsX3_keepsColumns rm_X3_keepsColumns (va_Pc [.ref a_this, .int x1] (fun U => U.heap.size = sz ∧ va_P (dC, dI) vwCl (ws_X3_keepsColumns cB cI cJ cZ a_this a_table a_table_due a_targets a_rowImages a_classOf a_table_columnsOf a_table_colours a_table_rowsOf a_table_clashesOf v_count v_table_columnCount v_table_neededCount v_table_rowCount v_table_due v_targets) U.heap ∧ va_K (dC, dI) vwCl (tysG cB cI cJ cZ) U ∧ va_D (fun _ => True) (ws_X3_keepsColumns cB cI cJ cZ a_this a_table a_table_due a_targets a_rowImages a_classOf a_table_columnsOf a_table_colours a_table_rowsOf a_table_clashesOf v_count v_table_columnCount v_table_neededCount v_table_rowCount v_table_due v_targets))) (qc_X3_keepsColumns (va_A (ws_X3_keepsColumns cB cI cJ cZ a_this a_table a_table_due a_targets a_rowImages a_classOf a_table_columnsOf a_table_colours a_table_rowsOf a_table_clashesOf v_count v_table_columnCount v_table_neededCount v_table_rowCount v_table_due v_targets) sz) dC dI cB cI cJ cZ a_this a_table a_table_due a_targets a_rowImages a_classOf a_table_columnsOf a_table_colours a_table_rowsOf a_table_clashesOf v_count v_table_columnCount v_table_neededCount v_table_rowCount v_table_due v_targets out) 0 0 (va_A (ws_X3_keepsColumns cB cI cJ cZ a_this a_table a_table_due a_targets a_rowImages a_classOf a_table_columnsOf a_table_colours a_table_rowsOf a_table_clashesOf v_count v_table_columnCount v_table_neededCount v_table_rowCount v_table_due v_targets) sz) := by
  refine Met.ofW (cc := cX3_keepsColumns) (maxL := 3) (ret := (some .boolean)) (by decide) rfl ?_
  intro p e s m args below meth c s₁ B hml hv
  obtain ⟨rfl, hsz, hP, hK, hD0⟩ := hv
  subst hsz
  have hD := hD0.self (sz := s.heap.size)
  generalize hAe : va_A (ws_X3_keepsColumns cB cI cJ cZ a_this a_table a_table_due a_targets a_rowImages a_classOf a_table_columnsOf a_table_colours a_table_rowsOf a_table_clashesOf v_count v_table_columnCount v_table_neededCount v_table_rowCount v_table_due v_targets) s.heap.size = A at hD ⊢
  have hA : ∀ q : Nat, s.heap.size ≤ q → A q := fun q h => by rw [← hAe]; exact Or.inr h
  have hl := lv_entry ([.ref a_this, .int x1]) (n := 3) (Nat.le_of_ble_eq_true rfl)
  rw [lg_entry_eq]
  generalize (lg_sl ([.ref a_this, .int x1]) ++ List.replicate (3 - (lg_sl ([.ref a_this, .int x1])).length) Slot.unset).toArray = ls at hl ⊢
  have hl : lv_has ls 3 [(0, .ref a_this), (1, .int x1)] := hl
  exact w_X3_keepsColumns_0 ⟨B.exec, B.bytes, B.returns, hml, findClass_of_methodNamed B.named, atoms_spec (ws := wsX3_keepsColumns) B.pre, B.notSynchronized, hA⟩ hK x1 hf _ _ hP hD va_S.rf ls (lv_sub hl [0, 1] rfl)
-- X3.goesTo(III)Z: 74 instructions
theorem in_X3_goesTo_X2 : ∀ w ∈ wsX20, w ∈ wsX3_goesTo := by decide +kernel
theorem in_X3_goesTo_X3 : ∀ w ∈ wsX30, w ∈ wsX3_goesTo := by decide +kernel
abbrev ws_X3_goesTo (cB cI cJ cZ : ClassId) (a_this a_table a_table_columnsOf a_table_colours a_targets a_rowImages a_classOf a_table_due a_table_rowsOf a_table_clashesOf : Nat) (v_count : Int32) (v_table_columnCount : Int32) (v_table_neededCount : Int32) (v_table_rowCount : Int32) (v_table_columnsOf : (Nat → Int32)) (v_table_colours : (Nat → Int32)) (v_targets : (Nat → Int32)) : va_W := [(a_this, .inr (4, [.ref a_table, .ref a_targets, .ref a_rowImages, .ref a_classOf, .int v_count])), (a_table, .inr (3, [.int v_table_columnCount, .int v_table_neededCount, .ref a_table_due, .ref a_table_columnsOf, .ref a_table_colours, .ref a_table_rowsOf, .ref a_table_clashesOf, .int v_table_rowCount])), (a_table_columnsOf, .inl (cI, 60, .inl v_table_columnsOf)), (a_table_colours, .inl (cB, 1440, .inl v_table_colours)), (a_targets, .inl (cI, 192, .inl v_targets))]
abbrev rm_X3_goesTo : Room := { frames := 0, cells := 0, slots := 0, locals := 0 }
theorem lk_X3_goesTo_f21 : Cond.fieldLink RX3 21 "LinkedCovers$Turns" "table" "LLinkedCovers$Table;" ∈ wsX3_goesTo := by decide +kernel
theorem lk_X3_goesTo_f58 : Cond.fieldLink RX3 58 "LinkedCovers$Table" "colours" "[B" ∈ wsX3_goesTo := by decide +kernel
theorem lk_X3_goesTo_f55 : Cond.fieldLink RX3 55 "LinkedCovers$Table" "columnsOf" "[I" ∈ wsX3_goesTo := by decide +kernel
theorem lk_X3_goesTo_f36 : Cond.fieldLink RX3 36 "LinkedCovers$Table" "columnCount" "I" ∈ wsX3_goesTo := by decide +kernel
theorem lk_X3_goesTo_f9 : Cond.fieldLink RX3 9 "LinkedCovers$Turns" "targets" "[I" ∈ wsX3_goesTo := by decide +kernel
def f_X3_goesTo_121 (v_table_columnCount : Int32) (v_table_columnsOf : (Nat → Int32)) (v_table_colours : (Nat → Int32)) (v_targets : (Nat → Int32))   : Option (Int32 × Unit) :=
  some (((0 : Int32), ()))
def f_X3_goesTo_75 (v_table_columnCount : Int32) (v_table_columnsOf : (Nat → Int32)) (v_table_colours : (Nat → Int32)) (v_targets : (Nat → Int32)) (k_3 : Int32 → Int32 → Int32 → Int32 → Option (Int32 × Unit)) (x1 : Int32) (x2 : Int32) (x3 : Int32) (x4 : Int32) (x5 : Int32) (x6 : Int32) (y0 : Int32) : Option (Int32 × Unit) :=
  if (((x2 * (24 : Int32)) + x4) < 0 ∨ 1440 ≤ Int32.toNatClampNeg ((x2 * (24 : Int32)) + x4)) then none else
  if x6 = y0 then
  (if (((x3 * (24 : Int32)) + x5) < 0 ∨ 1440 ≤ Int32.toNatClampNeg ((x3 * (24 : Int32)) + x5)) then none else
  if (v_table_colours (Int32.toNatClampNeg ((x2 * (24 : Int32)) + x4))) = (v_table_colours (Int32.toNatClampNeg ((x3 * (24 : Int32)) + x5))) then
  (k_3 x1 x2 x3 (x4 + 1))
  else
  (f_X3_goesTo_121 v_table_columnCount v_table_columnsOf v_table_colours v_targets ))
  else
  (f_X3_goesTo_121 v_table_columnCount v_table_columnsOf v_table_colours v_targets )
def f_X3_goesTo_51 (v_table_columnCount : Int32) (v_table_columnsOf : (Nat → Int32)) (v_table_colours : (Nat → Int32)) (v_targets : (Nat → Int32)) (k_3 : Int32 → Int32 → Int32 → Int32 → Option (Int32 × Unit)) (x1 : Int32) (x2 : Int32) (x3 : Int32) (x4 : Int32) (x5 : Int32) (y0 : Int32) : Option (Int32 × Unit) :=
  if (x3 < 0 ∨ 60 ≤ Int32.toNatClampNeg x3) then none else
  if (((v_table_columnsOf (Int32.toNatClampNeg x3)) >>> (x5 &&& 31)) &&& (1 : Int32)) = 0 then
  (f_X3_goesTo_75 v_table_columnCount v_table_columnsOf v_table_colours v_targets k_3 x1 x2 x3 x4 x5 y0 (0 : Int32))
  else
  (f_X3_goesTo_75 v_table_columnCount v_table_columnsOf v_table_colours v_targets k_3 x1 x2 x3 x4 x5 y0 (1 : Int32))
def f_X3_goesTo_3 (v_table_columnCount : Int32) (v_table_columnsOf : (Nat → Int32)) (v_table_colours : (Nat → Int32)) (v_targets : (Nat → Int32))  : Nat → Int32 → Int32 → Int32 → Int32 → Option (Int32 × Unit)
  | 0 => fun _ _ _ _ => none
  | n + 1 => fun x1 x2 x3 x4 => if v_table_columnCount ≤ x4 then
  (some (((1 : Int32), ())))
  else
  (if (((x1 * (24 : Int32)) + x4) < 0 ∨ 192 ≤ Int32.toNatClampNeg ((x1 * (24 : Int32)) + x4)) then none else
  if (x2 < 0 ∨ 60 ≤ Int32.toNatClampNeg x2) then none else
  if (((v_table_columnsOf (Int32.toNatClampNeg x2)) >>> (x4 &&& 31)) &&& (1 : Int32)) = 0 then
  (f_X3_goesTo_51 v_table_columnCount v_table_columnsOf v_table_colours v_targets (f_X3_goesTo_3 v_table_columnCount v_table_columnsOf v_table_colours v_targets n) x1 x2 x3 x4 (v_targets (Int32.toNatClampNeg ((x1 * (24 : Int32)) + x4))) (0 : Int32))
  else
  (f_X3_goesTo_51 v_table_columnCount v_table_columnsOf v_table_colours v_targets (f_X3_goesTo_3 v_table_columnCount v_table_columnsOf v_table_colours v_targets n) x1 x2 x3 x4 (v_targets (Int32.toNatClampNeg ((x1 * (24 : Int32)) + x4))) (1 : Int32)))
def f_X3_goesTo (v_table_columnCount : Int32) (v_table_columnsOf : (Nat → Int32)) (v_table_colours : (Nat → Int32)) (v_targets : (Nat → Int32))  (x1 : Int32) (x2 : Int32) (x3 : Int32) : Option (Int32 × Unit) :=
  f_X3_goesTo_3 v_table_columnCount v_table_columnsOf v_table_colours v_targets 1000000 x1 x2 x3 (0 : Int32)
abbrev qc_X3_goesTo (A : Nat → Prop) (dC : Nat → ClassId) (dI : Nat → Nat → Nat) (cB cI cJ cZ : ClassId) (a_this a_table a_table_columnsOf a_table_colours a_targets a_rowImages a_classOf a_table_due a_table_rowsOf a_table_clashesOf : Nat) (v_count : Int32) (v_table_columnCount : Int32) (v_table_neededCount : Int32) (v_table_rowCount : Int32) (v_table_columnsOf : (Nat → Int32)) (v_table_colours : (Nat → Int32)) (v_targets : (Nat → Int32)) (out : Int32 × Unit) : Array Value → State → Outcome → State → Prop := va_Qi (fun (r : Int32) (u : Unit) => r = out.1 ∧ u = out.2) (fun (u : Unit) (t : State) => va_P (dC, dI) vwCl (ws_X3_goesTo cB cI cJ cZ a_this a_table a_table_columnsOf a_table_colours a_targets a_rowImages a_classOf a_table_due a_table_rowsOf a_table_clashesOf v_count v_table_columnCount v_table_neededCount v_table_rowCount v_table_columnsOf v_table_colours v_targets) t.heap ∧ va_K (dC, dI) vwCl (tysG cB cI cJ cZ) t ∧ va_D A (ws_X3_goesTo cB cI cJ cZ a_this a_table a_table_columnsOf a_table_colours a_targets a_rowImages a_classOf a_table_due a_table_rowsOf a_table_clashesOf v_count v_table_columnCount v_table_neededCount v_table_rowCount v_table_columnsOf v_table_colours v_targets)) A
abbrev g_X3_goesTo_121 (p : Program) (l : Launch) (e : Env) (s : State) (m : MethodId) (args : Array Value) (below : List Frame) (meth : Method) (c : Code) (A : Nat → Prop) (dC : Nat → ClassId) (dI : Nat → Nat → Nat) (cB cI cJ cZ : ClassId) (a_this a_table a_table_columnsOf a_table_colours a_targets a_rowImages a_classOf a_table_due a_table_rowsOf a_table_clashesOf : Nat) (v_count : Int32) (v_table_columnCount : Int32) (v_table_neededCount : Int32) (v_table_rowCount : Int32) (v_table_columnsOf : (Nat → Int32)) (v_table_colours : (Nat → Int32)) (v_targets : (Nat → Int32)) (out : Int32 × Unit) (k : Option (Int32 × Unit)) : Prop := ∀ (_ : Unit), k = some out → ∀ (H : Heap) (locs : List Loc), va_P (dC, dI) vwCl (ws_X3_goesTo cB cI cJ cZ a_this a_table a_table_columnsOf a_table_colours a_targets a_rowImages a_classOf a_table_due a_table_rowsOf a_table_clashesOf v_count v_table_columnCount v_table_neededCount v_table_rowCount v_table_columnsOf v_table_colours v_targets) H → va_D A (ws_X3_goesTo cB cI cJ cZ a_this a_table a_table_columnsOf a_table_colours a_targets a_rowImages a_classOf a_table_due a_table_rowsOf a_table_clashesOf v_count v_table_columnCount v_table_neededCount v_table_rowCount v_table_columnsOf v_table_colours v_targets) → va_S A s.heap H locs → ∀ (ls : Array Slot), lv_has ls 9 [] → W p l e (headSpec wsX3_goesTo rm_X3_goesTo).room s m args below meth c H locs 0 0 (MQ below (qc_X3_goesTo A dC dI cB cI cJ cZ a_this a_table a_table_columnsOf a_table_colours a_targets a_rowImages a_classOf a_table_due a_table_rowsOf a_table_clashesOf v_count v_table_columnCount v_table_neededCount v_table_rowCount v_table_columnsOf v_table_colours v_targets out) args s 0 0 A) (F0 m 121 ls [])
abbrev g_X3_goesTo_75 (p : Program) (l : Launch) (e : Env) (s : State) (m : MethodId) (args : Array Value) (below : List Frame) (meth : Method) (c : Code) (A : Nat → Prop) (dC : Nat → ClassId) (dI : Nat → Nat → Nat) (cB cI cJ cZ : ClassId) (a_this a_table a_table_columnsOf a_table_colours a_targets a_rowImages a_classOf a_table_due a_table_rowsOf a_table_clashesOf : Nat) (v_count : Int32) (v_table_columnCount : Int32) (v_table_neededCount : Int32) (v_table_rowCount : Int32) (v_table_columnsOf : (Nat → Int32)) (v_table_colours : (Nat → Int32)) (v_targets : (Nat → Int32)) (out : Int32 × Unit) (k : Int32 → Int32 → Int32 → Int32 → Int32 → Int32 → Int32 → Option (Int32 × Unit)) : Prop := ∀ (x1 : Int32) (x2 : Int32) (x3 : Int32) (x4 : Int32) (x5 : Int32) (x6 : Int32) (y0 : Int32), k x1 x2 x3 x4 x5 x6 y0 = some out → ∀ (H : Heap) (locs : List Loc), va_P (dC, dI) vwCl (ws_X3_goesTo cB cI cJ cZ a_this a_table a_table_columnsOf a_table_colours a_targets a_rowImages a_classOf a_table_due a_table_rowsOf a_table_clashesOf v_count v_table_columnCount v_table_neededCount v_table_rowCount v_table_columnsOf v_table_colours v_targets) H → va_D A (ws_X3_goesTo cB cI cJ cZ a_this a_table a_table_columnsOf a_table_colours a_targets a_rowImages a_classOf a_table_due a_table_rowsOf a_table_clashesOf v_count v_table_columnCount v_table_neededCount v_table_rowCount v_table_columnsOf v_table_colours v_targets) → va_S A s.heap H locs → ∀ (ls : Array Slot), lv_has ls 9 [(0, .ref a_this), (1, .int x1), (2, .int x2), (3, .int x3), (4, .int x4), (5, .int x5), (6, .int x6)] → W p l e (headSpec wsX3_goesTo rm_X3_goesTo).room s m args below meth c H locs 0 0 (MQ below (qc_X3_goesTo A dC dI cB cI cJ cZ a_this a_table a_table_columnsOf a_table_colours a_targets a_rowImages a_classOf a_table_due a_table_rowsOf a_table_clashesOf v_count v_table_columnCount v_table_neededCount v_table_rowCount v_table_columnsOf v_table_colours v_targets out) args s 0 0 A) (F0 m 75 ls [.int y0])
abbrev g_X3_goesTo_51 (p : Program) (l : Launch) (e : Env) (s : State) (m : MethodId) (args : Array Value) (below : List Frame) (meth : Method) (c : Code) (A : Nat → Prop) (dC : Nat → ClassId) (dI : Nat → Nat → Nat) (cB cI cJ cZ : ClassId) (a_this a_table a_table_columnsOf a_table_colours a_targets a_rowImages a_classOf a_table_due a_table_rowsOf a_table_clashesOf : Nat) (v_count : Int32) (v_table_columnCount : Int32) (v_table_neededCount : Int32) (v_table_rowCount : Int32) (v_table_columnsOf : (Nat → Int32)) (v_table_colours : (Nat → Int32)) (v_targets : (Nat → Int32)) (out : Int32 × Unit) (k : Int32 → Int32 → Int32 → Int32 → Int32 → Int32 → Option (Int32 × Unit)) : Prop := ∀ (x1 : Int32) (x2 : Int32) (x3 : Int32) (x4 : Int32) (x5 : Int32) (y0 : Int32), k x1 x2 x3 x4 x5 y0 = some out → ∀ (H : Heap) (locs : List Loc), va_P (dC, dI) vwCl (ws_X3_goesTo cB cI cJ cZ a_this a_table a_table_columnsOf a_table_colours a_targets a_rowImages a_classOf a_table_due a_table_rowsOf a_table_clashesOf v_count v_table_columnCount v_table_neededCount v_table_rowCount v_table_columnsOf v_table_colours v_targets) H → va_D A (ws_X3_goesTo cB cI cJ cZ a_this a_table a_table_columnsOf a_table_colours a_targets a_rowImages a_classOf a_table_due a_table_rowsOf a_table_clashesOf v_count v_table_columnCount v_table_neededCount v_table_rowCount v_table_columnsOf v_table_colours v_targets) → va_S A s.heap H locs → ∀ (ls : Array Slot), lv_has ls 9 [(0, .ref a_this), (1, .int x1), (2, .int x2), (3, .int x3), (4, .int x4), (5, .int x5)] → W p l e (headSpec wsX3_goesTo rm_X3_goesTo).room s m args below meth c H locs 0 0 (MQ below (qc_X3_goesTo A dC dI cB cI cJ cZ a_this a_table a_table_columnsOf a_table_colours a_targets a_rowImages a_classOf a_table_due a_table_rowsOf a_table_clashesOf v_count v_table_columnCount v_table_neededCount v_table_rowCount v_table_columnsOf v_table_colours v_targets out) args s 0 0 A) (F0 m 51 ls [.int y0])
abbrev g_X3_goesTo_3 (p : Program) (l : Launch) (e : Env) (s : State) (m : MethodId) (args : Array Value) (below : List Frame) (meth : Method) (c : Code) (A : Nat → Prop) (dC : Nat → ClassId) (dI : Nat → Nat → Nat) (cB cI cJ cZ : ClassId) (a_this a_table a_table_columnsOf a_table_colours a_targets a_rowImages a_classOf a_table_due a_table_rowsOf a_table_clashesOf : Nat) (v_count : Int32) (v_table_columnCount : Int32) (v_table_neededCount : Int32) (v_table_rowCount : Int32) (v_table_columnsOf : (Nat → Int32)) (v_table_colours : (Nat → Int32)) (v_targets : (Nat → Int32)) (out : Int32 × Unit) (k : Int32 → Int32 → Int32 → Int32 → Option (Int32 × Unit)) : Prop := ∀ (x1 : Int32) (x2 : Int32) (x3 : Int32) (x4 : Int32), k x1 x2 x3 x4 = some out → ∀ (H : Heap) (locs : List Loc), va_P (dC, dI) vwCl (ws_X3_goesTo cB cI cJ cZ a_this a_table a_table_columnsOf a_table_colours a_targets a_rowImages a_classOf a_table_due a_table_rowsOf a_table_clashesOf v_count v_table_columnCount v_table_neededCount v_table_rowCount v_table_columnsOf v_table_colours v_targets) H → va_D A (ws_X3_goesTo cB cI cJ cZ a_this a_table a_table_columnsOf a_table_colours a_targets a_rowImages a_classOf a_table_due a_table_rowsOf a_table_clashesOf v_count v_table_columnCount v_table_neededCount v_table_rowCount v_table_columnsOf v_table_colours v_targets) → va_S A s.heap H locs → ∀ (ls : Array Slot), lv_has ls 9 [(0, .ref a_this), (1, .int x1), (2, .int x2), (3, .int x3), (4, .int x4)] → W p l e (headSpec wsX3_goesTo rm_X3_goesTo).room s m args below meth c H locs 0 0 (MQ below (qc_X3_goesTo A dC dI cB cI cJ cZ a_this a_table a_table_columnsOf a_table_colours a_targets a_rowImages a_classOf a_table_due a_table_rowsOf a_table_clashesOf v_count v_table_columnCount v_table_neededCount v_table_rowCount v_table_columnsOf v_table_colours v_targets out) args s 0 0 A) (F0 m 3 ls [])
abbrev g_X3_goesTo_0 (p : Program) (l : Launch) (e : Env) (s : State) (m : MethodId) (args : Array Value) (below : List Frame) (meth : Method) (c : Code) (A : Nat → Prop) (dC : Nat → ClassId) (dI : Nat → Nat → Nat) (cB cI cJ cZ : ClassId) (a_this a_table a_table_columnsOf a_table_colours a_targets a_rowImages a_classOf a_table_due a_table_rowsOf a_table_clashesOf : Nat) (v_count : Int32) (v_table_columnCount : Int32) (v_table_neededCount : Int32) (v_table_rowCount : Int32) (v_table_columnsOf : (Nat → Int32)) (v_table_colours : (Nat → Int32)) (v_targets : (Nat → Int32)) (out : Int32 × Unit) (k : Int32 → Int32 → Int32 → Option (Int32 × Unit)) : Prop := ∀ (x1 : Int32) (x2 : Int32) (x3 : Int32), k x1 x2 x3 = some out → ∀ (H : Heap) (locs : List Loc), va_P (dC, dI) vwCl (ws_X3_goesTo cB cI cJ cZ a_this a_table a_table_columnsOf a_table_colours a_targets a_rowImages a_classOf a_table_due a_table_rowsOf a_table_clashesOf v_count v_table_columnCount v_table_neededCount v_table_rowCount v_table_columnsOf v_table_colours v_targets) H → va_D A (ws_X3_goesTo cB cI cJ cZ a_this a_table a_table_columnsOf a_table_colours a_targets a_rowImages a_classOf a_table_due a_table_rowsOf a_table_clashesOf v_count v_table_columnCount v_table_neededCount v_table_rowCount v_table_columnsOf v_table_colours v_targets) → va_S A s.heap H locs → ∀ (ls : Array Slot), lv_has ls 9 [(0, .ref a_this), (1, .int x1), (2, .int x2), (3, .int x3)] → W p l e (headSpec wsX3_goesTo rm_X3_goesTo).room s m args below meth c H locs 0 0 (MQ below (qc_X3_goesTo A dC dI cB cI cJ cZ a_this a_table a_table_columnsOf a_table_colours a_targets a_rowImages a_classOf a_table_due a_table_rowsOf a_table_clashesOf v_count v_table_columnCount v_table_neededCount v_table_rowCount v_table_columnsOf v_table_colours v_targets out) args s 0 0 A) (F0 m 0 ls [])
set_option maxHeartbeats 4000000 in
set_option maxRecDepth 100000 in
theorem w_X3_goesTo_121 {p : Program} {l : Launch} {e : Env} {s : State} {m : MethodId} {args : Array Value} {below : List Frame} {meth : Method} {c : Code} {A : Nat → Prop} {dC : Nat → ClassId} {dI : Nat → Nat → Nat} {cB cI cJ cZ : ClassId} {a_this a_table a_table_columnsOf a_table_colours a_targets a_rowImages a_classOf a_table_due a_table_rowsOf a_table_clashesOf : Nat} {v_count : Int32} {v_table_columnCount : Int32} {v_table_neededCount : Int32} {v_table_rowCount : Int32} {v_table_columnsOf : (Nat → Int32)} {v_table_colours : (Nat → Int32)} {v_targets : (Nat → Int32)} {out : Int32 × Unit} (C0 : Cx RX3 cX3_goesTo (some .boolean) 9 wsX3_goesTo p s m args meth c A) (hK : va_K (dC, dI) vwCl (tysG cB cI cJ cZ) s)  : g_X3_goesTo_121 p l e s m args below meth c A dC dI cB cI cJ cZ a_this a_table a_table_columnsOf a_table_colours a_targets a_rowImages a_classOf a_table_due a_table_rowsOf a_table_clashesOf v_count v_table_columnCount v_table_neededCount v_table_rowCount v_table_columnsOf v_table_colours v_targets out (f_X3_goesTo_121 v_table_columnCount v_table_columnsOf v_table_colours v_targets ) := by
  obtain ⟨hx, hb, hr, hml, hown, hts, hlocks, hA⟩ := id C0
  intro _ hf H locs hP hD hS ls hl
  replace hf : ((some (((0 : Int32), ()))) : Option (Int32 × Unit)) = some out := hf
  refine lv_iconst (v := 0) hx hb dX3_goesTo_121 (by decide) ?_
  have h9 := Option.some.inj hf
  have h8 := congrArg Prod.fst h9
  have h7 := congrArg Prod.snd h9
  exact W.zret (v := (0 : Int32)) hx hb hr rfl (fun t ht hW => ⟨⟨(0 : Int32), (), rfl, ⟨h8, h7⟩, by rw [ht]; exact hP, va_K.moved hW.alike hK, hD⟩, hS.F ht⟩) hS.2.2 dX3_goesTo_122
set_option maxHeartbeats 4000000 in
set_option maxRecDepth 100000 in
theorem w_X3_goesTo_75 {p : Program} {l : Launch} {e : Env} {s : State} {m : MethodId} {args : Array Value} {below : List Frame} {meth : Method} {c : Code} {A : Nat → Prop} {dC : Nat → ClassId} {dI : Nat → Nat → Nat} {cB cI cJ cZ : ClassId} {a_this a_table a_table_columnsOf a_table_colours a_targets a_rowImages a_classOf a_table_due a_table_rowsOf a_table_clashesOf : Nat} {v_count : Int32} {v_table_columnCount : Int32} {v_table_neededCount : Int32} {v_table_rowCount : Int32} {v_table_columnsOf : (Nat → Int32)} {v_table_colours : (Nat → Int32)} {v_targets : (Nat → Int32)} {out : Int32 × Unit} (C0 : Cx RX3 cX3_goesTo (some .boolean) 9 wsX3_goesTo p s m args meth c A) (hK : va_K (dC, dI) vwCl (tysG cB cI cJ cZ) s) {k_3 : Int32 → Int32 → Int32 → Int32 → Option (Int32 × Unit)} (hk_3 : g_X3_goesTo_3 p l e s m args below meth c A dC dI cB cI cJ cZ a_this a_table a_table_columnsOf a_table_colours a_targets a_rowImages a_classOf a_table_due a_table_rowsOf a_table_clashesOf v_count v_table_columnCount v_table_neededCount v_table_rowCount v_table_columnsOf v_table_colours v_targets out k_3) : g_X3_goesTo_75 p l e s m args below meth c A dC dI cB cI cJ cZ a_this a_table a_table_columnsOf a_table_colours a_targets a_rowImages a_classOf a_table_due a_table_rowsOf a_table_clashesOf v_count v_table_columnCount v_table_neededCount v_table_rowCount v_table_columnsOf v_table_colours v_targets out (f_X3_goesTo_75 v_table_columnCount v_table_columnsOf v_table_colours v_targets k_3) := by
  obtain ⟨hx, hb, hr, hml, hown, hts, hlocks, hA⟩ := id C0
  intro x1 x2 x3 x4 x5 x6 y0 hf H locs hP hD hS ls hl
  replace hf : ((if (((x2 * (24 : Int32)) + x4) < 0 ∨ 1440 ≤ Int32.toNatClampNeg ((x2 * (24 : Int32)) + x4)) then none else
  if x6 = y0 then
  (if (((x3 * (24 : Int32)) + x5) < 0 ∨ 1440 ≤ Int32.toNatClampNeg ((x3 * (24 : Int32)) + x5)) then none else
  if (v_table_colours (Int32.toNatClampNeg ((x2 * (24 : Int32)) + x4))) = (v_table_colours (Int32.toNatClampNeg ((x3 * (24 : Int32)) + x5))) then
  (k_3 x1 x2 x3 (x4 + 1))
  else
  (f_X3_goesTo_121 v_table_columnCount v_table_columnsOf v_table_colours v_targets ))
  else
  (f_X3_goesTo_121 v_table_columnCount v_table_columnsOf v_table_colours v_targets )) : Option (Int32 × Unit)) = some out := hf
  refine lv_istore (lv' := [(7, .int y0), (0, .ref a_this), (1, .int x1), (2, .int x2), (3, .int x3), (4, .int x4), (5, .int x5), (6, .int x6)]) hx hb dX3_goesTo_75 hl (by decide) rfl (fun ls hl => ?_)
  refine lv_aload_n hx hb dX3_goesTo_77 rfl (lv_at hl 1 rfl) ?_
  refine va_get (D := (dC, dI)) (ci := 4) (v := .ref a_table) (C := RX3) (T := TX3) (N := 5) hx hb hts in_X3_goesTo_X3 hown hK hP 0 rfl rfl 0 (by decide) (hts (.fieldLink RX3 21 "LinkedCovers$Turns" "table" "LLinkedCovers$Table;") lk_X3_goesTo_f21) (fun _ h9 => h9) rfl dX3_goesTo_78 ?_
  refine va_get (D := (dC, dI)) (ci := 3) (v := .ref a_table_colours) (C := RX2) (T := TX2) (N := 8) hx hb hts in_X3_goesTo_X2 hown hK hP 1 rfl rfl 4 (by decide) (hts (.fieldLink RX3 58 "LinkedCovers$Table" "colours" "[B") lk_X3_goesTo_f58) (fun _ h9 => h9) rfl dX3_goesTo_81 ?_
  refine lv_iload_n hx hb dX3_goesTo_84 rfl (lv_at hl 3 rfl) ?_
  refine lv_bipush (v := 24) hx hb dX3_goesTo_85 (by decide) ?_
  refine lv_imul hx hb dX3_goesTo_87 ?_
  refine lv_iload hx hb dX3_goesTo_88 (lv_at hl 5 rfl) ?_
  refine lv_iadd hx hb dX3_goesTo_90 ?_
  obtain ⟨h_1, hf⟩ := gd_ck hf
  refine va_bald hx hb hK hP 3 0 rfl rfl h_1 dX3_goesTo_91 ?_
  refine lv_istore (lv' := [(8, .int (v_table_colours (Int32.toNatClampNeg ((x2 * (24 : Int32)) + x4)))), (7, .int y0), (0, .ref a_this), (1, .int x1), (2, .int x2), (3, .int x3), (4, .int x4), (5, .int x5), (6, .int x6)]) hx hb dX3_goesTo_92 hl (by decide) rfl (fun ls hl => ?_)
  refine lv_iload hx hb dX3_goesTo_94 (lv_at hl 8 rfl) ?_
  refine lv_iload hx hb dX3_goesTo_96 (lv_at hl 1 rfl) ?_
  refine lv_icmp_ne (tgt := 121) hx hb dX3_goesTo_98 (by decide) (fun c_2 => ?_) (fun c_2 => ?_)
  · replace hf := (if_neg c_2).symm.trans hf
    exact w_X3_goesTo_121 C0 hK () hf _ _ hP hD hS ls (lv_sub hl [] rfl)
  · replace hf := (if_pos c_2).symm.trans hf
    refine lv_iload hx hb dX3_goesTo_101 (lv_at hl 0 rfl) ?_
    refine lv_aload_n hx hb dX3_goesTo_103 rfl (lv_at hl 2 rfl) ?_
    refine va_get (D := (dC, dI)) (ci := 4) (v := .ref a_table) (C := RX3) (T := TX3) (N := 5) hx hb hts in_X3_goesTo_X3 hown hK hP 0 rfl rfl 0 (by decide) (hts (.fieldLink RX3 21 "LinkedCovers$Turns" "table" "LLinkedCovers$Table;") lk_X3_goesTo_f21) (fun _ h9 => h9) rfl dX3_goesTo_104 ?_
    refine va_get (D := (dC, dI)) (ci := 3) (v := .ref a_table_colours) (C := RX2) (T := TX2) (N := 8) hx hb hts in_X3_goesTo_X2 hown hK hP 1 rfl rfl 4 (by decide) (hts (.fieldLink RX3 58 "LinkedCovers$Table" "colours" "[B") lk_X3_goesTo_f58) (fun _ h9 => h9) rfl dX3_goesTo_107 ?_
    refine lv_iload_n hx hb dX3_goesTo_110 rfl (lv_at hl 5 rfl) ?_
    refine lv_bipush (v := 24) hx hb dX3_goesTo_111 (by decide) ?_
    refine lv_imul hx hb dX3_goesTo_113 ?_
    refine lv_iload hx hb dX3_goesTo_114 (lv_at hl 7 rfl) ?_
    refine lv_iadd hx hb dX3_goesTo_116 ?_
    obtain ⟨h_3, hf⟩ := gd_ck hf
    refine va_bald hx hb hK hP 3 0 rfl rfl h_3 dX3_goesTo_117 ?_
    refine lv_icmp_eq (tgt := 123) hx hb dX3_goesTo_118 (by decide) (fun c_4 => ?_) (fun c_4 => ?_)
    · replace hf := (if_pos c_4).symm.trans hf
      refine lv_iinc (v := (x4 + 1)) (lv' := [(4, .int (x4 + 1)), (8, .int (v_table_colours (Int32.toNatClampNeg ((x2 * (24 : Int32)) + x4)))), (7, .int y0), (0, .ref a_this), (1, .int x1), (2, .int x2), (3, .int x3), (5, .int x5), (6, .int x6)]) hx hb dX3_goesTo_123 hl (k := 6) rfl rfl (by decide) rfl (fun ls hl => ?_)
      refine lv_goto (tgt := 3) hx hb dX3_goesTo_126 (by decide) ?_
      exact hk_3 x1 x2 x3 (x4 + 1) hf _ _ hP hD hS ls (lv_sub hl [3, 4, 5, 6, 0] rfl)
    · replace hf := (if_neg c_4).symm.trans hf
      exact w_X3_goesTo_121 C0 hK () hf _ _ hP hD hS ls (lv_sub hl [] rfl)
set_option maxHeartbeats 4000000 in
set_option maxRecDepth 100000 in
theorem w_X3_goesTo_51 {p : Program} {l : Launch} {e : Env} {s : State} {m : MethodId} {args : Array Value} {below : List Frame} {meth : Method} {c : Code} {A : Nat → Prop} {dC : Nat → ClassId} {dI : Nat → Nat → Nat} {cB cI cJ cZ : ClassId} {a_this a_table a_table_columnsOf a_table_colours a_targets a_rowImages a_classOf a_table_due a_table_rowsOf a_table_clashesOf : Nat} {v_count : Int32} {v_table_columnCount : Int32} {v_table_neededCount : Int32} {v_table_rowCount : Int32} {v_table_columnsOf : (Nat → Int32)} {v_table_colours : (Nat → Int32)} {v_targets : (Nat → Int32)} {out : Int32 × Unit} (C0 : Cx RX3 cX3_goesTo (some .boolean) 9 wsX3_goesTo p s m args meth c A) (hK : va_K (dC, dI) vwCl (tysG cB cI cJ cZ) s) {k_3 : Int32 → Int32 → Int32 → Int32 → Option (Int32 × Unit)} (hk_3 : g_X3_goesTo_3 p l e s m args below meth c A dC dI cB cI cJ cZ a_this a_table a_table_columnsOf a_table_colours a_targets a_rowImages a_classOf a_table_due a_table_rowsOf a_table_clashesOf v_count v_table_columnCount v_table_neededCount v_table_rowCount v_table_columnsOf v_table_colours v_targets out k_3) : g_X3_goesTo_51 p l e s m args below meth c A dC dI cB cI cJ cZ a_this a_table a_table_columnsOf a_table_colours a_targets a_rowImages a_classOf a_table_due a_table_rowsOf a_table_clashesOf v_count v_table_columnCount v_table_neededCount v_table_rowCount v_table_columnsOf v_table_colours v_targets out (f_X3_goesTo_51 v_table_columnCount v_table_columnsOf v_table_colours v_targets k_3) := by
  obtain ⟨hx, hb, hr, hml, hown, hts, hlocks, hA⟩ := id C0
  intro x1 x2 x3 x4 x5 y0 hf H locs hP hD hS ls hl
  replace hf : ((if (x3 < 0 ∨ 60 ≤ Int32.toNatClampNeg x3) then none else
  if (((v_table_columnsOf (Int32.toNatClampNeg x3)) >>> (x5 &&& 31)) &&& (1 : Int32)) = 0 then
  (f_X3_goesTo_75 v_table_columnCount v_table_columnsOf v_table_colours v_targets k_3 x1 x2 x3 x4 x5 y0 (0 : Int32))
  else
  (f_X3_goesTo_75 v_table_columnCount v_table_columnsOf v_table_colours v_targets k_3 x1 x2 x3 x4 x5 y0 (1 : Int32))) : Option (Int32 × Unit)) = some out := hf
  refine lv_istore (lv' := [(6, .int y0), (0, .ref a_this), (1, .int x1), (2, .int x2), (3, .int x3), (4, .int x4), (5, .int x5)]) hx hb dX3_goesTo_51 hl (by decide) rfl (fun ls hl => ?_)
  refine lv_aload_n hx hb dX3_goesTo_53 rfl (lv_at hl 1 rfl) ?_
  refine va_get (D := (dC, dI)) (ci := 4) (v := .ref a_table) (C := RX3) (T := TX3) (N := 5) hx hb hts in_X3_goesTo_X3 hown hK hP 0 rfl rfl 0 (by decide) (hts (.fieldLink RX3 21 "LinkedCovers$Turns" "table" "LLinkedCovers$Table;") lk_X3_goesTo_f21) (fun _ h9 => h9) rfl dX3_goesTo_54 ?_
  refine va_get (D := (dC, dI)) (ci := 3) (v := .ref a_table_columnsOf) (C := RX2) (T := TX2) (N := 8) hx hb hts in_X3_goesTo_X2 hown hK hP 1 rfl rfl 3 (by decide) (hts (.fieldLink RX3 55 "LinkedCovers$Table" "columnsOf" "[I") lk_X3_goesTo_f55) (fun _ h9 => h9) rfl dX3_goesTo_57 ?_
  refine lv_iload_n hx hb dX3_goesTo_60 rfl (lv_at hl 4 rfl) ?_
  obtain ⟨h_5, hf⟩ := gd_ck hf
  refine va_iald hx hb hK hP 2 1 rfl rfl h_5 dX3_goesTo_61 ?_
  refine lv_iload hx hb dX3_goesTo_62 (lv_at hl 6 rfl) ?_
  refine lv_ishr hx hb dX3_goesTo_64 ?_
  refine lv_iconst (v := 1) hx hb dX3_goesTo_65 (by decide) ?_
  refine lv_iand hx hb dX3_goesTo_66 ?_
  refine lv_if_eq (tgt := 74) hx hb dX3_goesTo_67 (by decide) (fun c_6 => ?_) (fun c_6 => ?_)
  · replace hf := (if_pos c_6).symm.trans hf
    refine lv_iconst (v := 0) hx hb dX3_goesTo_74 (by decide) ?_
    exact w_X3_goesTo_75 C0 hK hk_3 x1 x2 x3 x4 x5 y0 (0 : Int32) hf _ _ hP hD hS ls (lv_sub hl [1, 2, 3, 4, 5, 6, 0] rfl)
  · replace hf := (if_neg c_6).symm.trans hf
    refine lv_iconst (v := 1) hx hb dX3_goesTo_70 (by decide) ?_
    refine lv_goto (tgt := 75) hx hb dX3_goesTo_71 (by decide) ?_
    exact w_X3_goesTo_75 C0 hK hk_3 x1 x2 x3 x4 x5 y0 (1 : Int32) hf _ _ hP hD hS ls (lv_sub hl [1, 2, 3, 4, 5, 6, 0] rfl)
set_option maxHeartbeats 4000000 in
set_option maxRecDepth 100000 in
theorem w_X3_goesTo_3 {p : Program} {l : Launch} {e : Env} {s : State} {m : MethodId} {args : Array Value} {below : List Frame} {meth : Method} {c : Code} {A : Nat → Prop} {dC : Nat → ClassId} {dI : Nat → Nat → Nat} {cB cI cJ cZ : ClassId} {a_this a_table a_table_columnsOf a_table_colours a_targets a_rowImages a_classOf a_table_due a_table_rowsOf a_table_clashesOf : Nat} {v_count : Int32} {v_table_columnCount : Int32} {v_table_neededCount : Int32} {v_table_rowCount : Int32} {v_table_columnsOf : (Nat → Int32)} {v_table_colours : (Nat → Int32)} {v_targets : (Nat → Int32)} {out : Int32 × Unit} (C0 : Cx RX3 cX3_goesTo (some .boolean) 9 wsX3_goesTo p s m args meth c A) (hK : va_K (dC, dI) vwCl (tysG cB cI cJ cZ) s)  : ∀ n : Nat, g_X3_goesTo_3 p l e s m args below meth c A dC dI cB cI cJ cZ a_this a_table a_table_columnsOf a_table_colours a_targets a_rowImages a_classOf a_table_due a_table_rowsOf a_table_clashesOf v_count v_table_columnCount v_table_neededCount v_table_rowCount v_table_columnsOf v_table_colours v_targets out (f_X3_goesTo_3 v_table_columnCount v_table_columnsOf v_table_colours v_targets  n) := by
  obtain ⟨hx, hb, hr, hml, hown, hts, hlocks, hA⟩ := id C0
  intro n
  induction n with
  | zero =>
    intro x1 x2 x3 x4 hf H locs hP hD hS ls hl
    exact nomatch (show (none : Option (Int32 × Unit)) = some out from hf)
  | succ n ih =>
    intro x1 x2 x3 x4 hf H locs hP hD hS ls hl
    replace hf : ((if v_table_columnCount ≤ x4 then
  (some (((1 : Int32), ())))
  else
  (if (((x1 * (24 : Int32)) + x4) < 0 ∨ 192 ≤ Int32.toNatClampNeg ((x1 * (24 : Int32)) + x4)) then none else
  if (x2 < 0 ∨ 60 ≤ Int32.toNatClampNeg x2) then none else
  if (((v_table_columnsOf (Int32.toNatClampNeg x2)) >>> (x4 &&& 31)) &&& (1 : Int32)) = 0 then
  (f_X3_goesTo_51 v_table_columnCount v_table_columnsOf v_table_colours v_targets (f_X3_goesTo_3 v_table_columnCount v_table_columnsOf v_table_colours v_targets n) x1 x2 x3 x4 (v_targets (Int32.toNatClampNeg ((x1 * (24 : Int32)) + x4))) (0 : Int32))
  else
  (f_X3_goesTo_51 v_table_columnCount v_table_columnsOf v_table_colours v_targets (f_X3_goesTo_3 v_table_columnCount v_table_columnsOf v_table_colours v_targets n) x1 x2 x3 x4 (v_targets (Int32.toNatClampNeg ((x1 * (24 : Int32)) + x4))) (1 : Int32)))) : Option (Int32 × Unit)) = some out := hf
    refine lv_iload hx hb dX3_goesTo_3 (lv_at hl 4 rfl) ?_
    refine lv_aload_n hx hb dX3_goesTo_5 rfl (lv_at hl 0 rfl) ?_
    refine va_get (D := (dC, dI)) (ci := 4) (v := .ref a_table) (C := RX3) (T := TX3) (N := 5) hx hb hts in_X3_goesTo_X3 hown hK hP 0 rfl rfl 0 (by decide) (hts (.fieldLink RX3 21 "LinkedCovers$Turns" "table" "LLinkedCovers$Table;") lk_X3_goesTo_f21) (fun _ h9 => h9) rfl dX3_goesTo_6 ?_
    refine va_get (D := (dC, dI)) (ci := 3) (v := .int v_table_columnCount) (C := RX2) (T := TX2) (N := 8) hx hb hts in_X3_goesTo_X2 hown hK hP 1 rfl rfl 0 (by decide) (hts (.fieldLink RX3 36 "LinkedCovers$Table" "columnCount" "I") lk_X3_goesTo_f36) (fun _ h9 => h9) rfl dX3_goesTo_9 ?_
    refine lv_icmp_ge (tgt := 129) hx hb dX3_goesTo_12 (by decide) (fun c_7 => ?_) (fun c_7 => ?_)
    · replace hf := (if_pos c_7).symm.trans hf
      refine lv_iconst (v := 1) hx hb dX3_goesTo_129 (by decide) ?_
      have h9 := Option.some.inj hf
      have h8 := congrArg Prod.fst h9
      have h7 := congrArg Prod.snd h9
      exact W.zret (v := (1 : Int32)) hx hb hr rfl (fun t ht hW => ⟨⟨(1 : Int32), (), rfl, ⟨h8, h7⟩, by rw [ht]; exact hP, va_K.moved hW.alike hK, hD⟩, hS.F ht⟩) hS.2.2 dX3_goesTo_130
    · replace hf := (if_neg c_7).symm.trans hf
      refine lv_aload_n hx hb dX3_goesTo_15 rfl (lv_at hl 0 rfl) ?_
      refine va_get (D := (dC, dI)) (ci := 4) (v := .ref a_targets) (C := RX3) (T := TX3) (N := 5) hx hb hts in_X3_goesTo_X3 hown hK hP 0 rfl rfl 1 (by decide) (hts (.fieldLink RX3 9 "LinkedCovers$Turns" "targets" "[I") lk_X3_goesTo_f9) (fun _ h9 => h9) rfl dX3_goesTo_16 ?_
      refine lv_iload_n hx hb dX3_goesTo_19 rfl (lv_at hl 1 rfl) ?_
      refine lv_bipush (v := 24) hx hb dX3_goesTo_20 (by decide) ?_
      refine lv_imul hx hb dX3_goesTo_22 ?_
      refine lv_iload hx hb dX3_goesTo_23 (lv_at hl 4 rfl) ?_
      refine lv_iadd hx hb dX3_goesTo_25 ?_
      obtain ⟨h_8, hf⟩ := gd_ck hf
      refine va_iald hx hb hK hP 4 1 rfl rfl h_8 dX3_goesTo_26 ?_
      refine lv_istore (lv' := [(5, .int (v_targets (Int32.toNatClampNeg ((x1 * (24 : Int32)) + x4)))), (0, .ref a_this), (1, .int x1), (2, .int x2), (3, .int x3), (4, .int x4)]) hx hb dX3_goesTo_27 hl (by decide) rfl (fun ls hl => ?_)
      refine lv_aload_n hx hb dX3_goesTo_29 rfl (lv_at hl 1 rfl) ?_
      refine va_get (D := (dC, dI)) (ci := 4) (v := .ref a_table) (C := RX3) (T := TX3) (N := 5) hx hb hts in_X3_goesTo_X3 hown hK hP 0 rfl rfl 0 (by decide) (hts (.fieldLink RX3 21 "LinkedCovers$Turns" "table" "LLinkedCovers$Table;") lk_X3_goesTo_f21) (fun _ h9 => h9) rfl dX3_goesTo_30 ?_
      refine va_get (D := (dC, dI)) (ci := 3) (v := .ref a_table_columnsOf) (C := RX2) (T := TX2) (N := 8) hx hb hts in_X3_goesTo_X2 hown hK hP 1 rfl rfl 3 (by decide) (hts (.fieldLink RX3 55 "LinkedCovers$Table" "columnsOf" "[I") lk_X3_goesTo_f55) (fun _ h9 => h9) rfl dX3_goesTo_33 ?_
      refine lv_iload_n hx hb dX3_goesTo_36 rfl (lv_at hl 3 rfl) ?_
      obtain ⟨h_9, hf⟩ := gd_ck hf
      refine va_iald hx hb hK hP 2 1 rfl rfl h_9 dX3_goesTo_37 ?_
      refine lv_iload hx hb dX3_goesTo_38 (lv_at hl 5 rfl) ?_
      refine lv_ishr hx hb dX3_goesTo_40 ?_
      refine lv_iconst (v := 1) hx hb dX3_goesTo_41 (by decide) ?_
      refine lv_iand hx hb dX3_goesTo_42 ?_
      refine lv_if_eq (tgt := 50) hx hb dX3_goesTo_43 (by decide) (fun c_10 => ?_) (fun c_10 => ?_)
      · replace hf := (if_pos c_10).symm.trans hf
        refine lv_iconst (v := 0) hx hb dX3_goesTo_50 (by decide) ?_
        exact w_X3_goesTo_51 C0 hK ih x1 x2 x3 x4 (v_targets (Int32.toNatClampNeg ((x1 * (24 : Int32)) + x4))) (0 : Int32) hf _ _ hP hD hS ls (lv_sub hl [1, 2, 3, 4, 5, 0] rfl)
      · replace hf := (if_neg c_10).symm.trans hf
        refine lv_iconst (v := 1) hx hb dX3_goesTo_46 (by decide) ?_
        refine lv_goto (tgt := 51) hx hb dX3_goesTo_47 (by decide) ?_
        exact w_X3_goesTo_51 C0 hK ih x1 x2 x3 x4 (v_targets (Int32.toNatClampNeg ((x1 * (24 : Int32)) + x4))) (1 : Int32) hf _ _ hP hD hS ls (lv_sub hl [1, 2, 3, 4, 5, 0] rfl)
set_option maxHeartbeats 4000000 in
set_option maxRecDepth 100000 in
theorem w_X3_goesTo_0 {p : Program} {l : Launch} {e : Env} {s : State} {m : MethodId} {args : Array Value} {below : List Frame} {meth : Method} {c : Code} {A : Nat → Prop} {dC : Nat → ClassId} {dI : Nat → Nat → Nat} {cB cI cJ cZ : ClassId} {a_this a_table a_table_columnsOf a_table_colours a_targets a_rowImages a_classOf a_table_due a_table_rowsOf a_table_clashesOf : Nat} {v_count : Int32} {v_table_columnCount : Int32} {v_table_neededCount : Int32} {v_table_rowCount : Int32} {v_table_columnsOf : (Nat → Int32)} {v_table_colours : (Nat → Int32)} {v_targets : (Nat → Int32)} {out : Int32 × Unit} (C0 : Cx RX3 cX3_goesTo (some .boolean) 9 wsX3_goesTo p s m args meth c A) (hK : va_K (dC, dI) vwCl (tysG cB cI cJ cZ) s)  : g_X3_goesTo_0 p l e s m args below meth c A dC dI cB cI cJ cZ a_this a_table a_table_columnsOf a_table_colours a_targets a_rowImages a_classOf a_table_due a_table_rowsOf a_table_clashesOf v_count v_table_columnCount v_table_neededCount v_table_rowCount v_table_columnsOf v_table_colours v_targets out (f_X3_goesTo v_table_columnCount v_table_columnsOf v_table_colours v_targets ) := by
  obtain ⟨hx, hb, hr, hml, hown, hts, hlocks, hA⟩ := id C0
  intro x1 x2 x3 hf H locs hP hD hS ls hl
  replace hf : ((f_X3_goesTo_3 v_table_columnCount v_table_columnsOf v_table_colours v_targets 1000000 x1 x2 x3 (0 : Int32)) : Option (Int32 × Unit)) = some out := hf
  refine lv_iconst (v := 0) hx hb dX3_goesTo_0 (by decide) ?_
  refine lv_istore (lv' := [(4, .int (0 : Int32)), (0, .ref a_this), (1, .int x1), (2, .int x2), (3, .int x3)]) hx hb dX3_goesTo_1 hl (by decide) rfl (fun ls hl => ?_)
  exact w_X3_goesTo_3 C0 hK 1000000 x1 x2 x3 (0 : Int32) hf _ _ hP hD hS ls (lv_sub hl [1, 2, 3, 4, 0] rfl)
theorem nd_X3_goesTo : yX3_goesTo.cls ≠ "java/lang/invoke/MethodHandle" ∧ yX3_goesTo.cls ≠ "java/lang/invoke/VarHandle" ∧ (parseMethodDescriptor yX3_goesTo.desc).map (fun d => d.parameters.length) = some 3 := by decide +kernel
set_option maxHeartbeats 4000000 in
set_option maxRecDepth 100000 in
theorem c_X3_goesTo (l : Launch) (dC : Nat → ClassId) (dI : Nat → Nat → Nat) (cB cI cJ cZ : ClassId) (a_this a_table a_table_columnsOf a_table_colours a_targets a_rowImages a_classOf a_table_due a_table_rowsOf a_table_clashesOf : Nat) (sz : Nat) (v_count : Int32) (v_table_columnCount : Int32) (v_table_neededCount : Int32) (v_table_rowCount : Int32) (v_table_columnsOf : (Nat → Int32)) (v_table_colours : (Nat → Int32)) (v_targets : (Nat → Int32)) (x1 : Int32) (x2 : Int32) (x3 : Int32) (out : Int32 × Unit) (hf : f_X3_goesTo v_table_columnCount v_table_columnsOf v_table_colours v_targets x1 x2 x3 = some out) : Met l yX3_goesTo wsX3_goesTo rm_X3_goesTo (va_Pc [.ref a_this, .int x1, .int x2, .int x3] (fun U => U.heap.size = sz ∧ va_P (dC, dI) vwCl (ws_X3_goesTo cB cI cJ cZ a_this a_table a_table_columnsOf a_table_colours a_targets a_rowImages a_classOf a_table_due a_table_rowsOf a_table_clashesOf v_count v_table_columnCount v_table_neededCount v_table_rowCount v_table_columnsOf v_table_colours v_targets) U.heap ∧ va_K (dC, dI) vwCl (tysG cB cI cJ cZ) U ∧ va_D (fun _ => True) (ws_X3_goesTo cB cI cJ cZ a_this a_table a_table_columnsOf a_table_colours a_targets a_rowImages a_classOf a_table_due a_table_rowsOf a_table_clashesOf v_count v_table_columnCount v_table_neededCount v_table_rowCount v_table_columnsOf v_table_colours v_targets))) (qc_X3_goesTo (va_A (ws_X3_goesTo cB cI cJ cZ a_this a_table a_table_columnsOf a_table_colours a_targets a_rowImages a_classOf a_table_due a_table_rowsOf a_table_clashesOf v_count v_table_columnCount v_table_neededCount v_table_rowCount v_table_columnsOf v_table_colours v_targets) sz) dC dI cB cI cJ cZ a_this a_table a_table_columnsOf a_table_colours a_targets a_rowImages a_classOf a_table_due a_table_rowsOf a_table_clashesOf v_count v_table_columnCount v_table_neededCount v_table_rowCount v_table_columnsOf v_table_colours v_targets out) 0 0 (va_A (ws_X3_goesTo cB cI cJ cZ a_this a_table a_table_columnsOf a_table_colours a_targets a_rowImages a_classOf a_table_due a_table_rowsOf a_table_clashesOf v_count v_table_columnCount v_table_neededCount v_table_rowCount v_table_columnsOf v_table_colours v_targets) sz) := by
  refine Met.ofW (cc := cX3_goesTo) (maxL := 9) (ret := (some .boolean)) (by decide) rfl ?_
  intro p e s m args below meth c s₁ B hml hv
  obtain ⟨rfl, hsz, hP, hK, hD0⟩ := hv
  subst hsz
  have hD := hD0.self (sz := s.heap.size)
  generalize hAe : va_A (ws_X3_goesTo cB cI cJ cZ a_this a_table a_table_columnsOf a_table_colours a_targets a_rowImages a_classOf a_table_due a_table_rowsOf a_table_clashesOf v_count v_table_columnCount v_table_neededCount v_table_rowCount v_table_columnsOf v_table_colours v_targets) s.heap.size = A at hD ⊢
  have hA : ∀ q : Nat, s.heap.size ≤ q → A q := fun q h => by rw [← hAe]; exact Or.inr h
  have hl := lv_entry ([.ref a_this, .int x1, .int x2, .int x3]) (n := 9) (Nat.le_of_ble_eq_true rfl)
  rw [lg_entry_eq]
  generalize (lg_sl ([.ref a_this, .int x1, .int x2, .int x3]) ++ List.replicate (9 - (lg_sl ([.ref a_this, .int x1, .int x2, .int x3])).length) Slot.unset).toArray = ls at hl ⊢
  have hl : lv_has ls 9 [(0, .ref a_this), (1, .int x1), (2, .int x2), (3, .int x3)] := hl
  exact w_X3_goesTo_0 ⟨B.exec, B.bytes, B.returns, hml, findClass_of_methodNamed B.named, atoms_spec (ws := wsX3_goesTo) B.pre, B.notSynchronized, hA⟩ hK x1 x2 x3 hf _ _ hP hD va_S.rf ls (lv_sub hl [0, 1, 2, 3] rfl)
-- X3.rowImage(II)I: 19 instructions
theorem in_X3_rowImage_X2 : ∀ w ∈ wsX20, w ∈ wsX3_rowImage := by decide +kernel
theorem in_X3_rowImage_X3 : ∀ w ∈ wsX30, w ∈ wsX3_rowImage := by decide +kernel
abbrev ws_X3_rowImage (cB cI cJ cZ : ClassId) (a_this a_table a_table_columnsOf a_table_colours a_targets a_rowImages a_classOf a_table_due a_table_rowsOf a_table_clashesOf : Nat) (v_count : Int32) (v_table_columnCount : Int32) (v_table_neededCount : Int32) (v_table_rowCount : Int32) (v_table_columnsOf : (Nat → Int32)) (v_table_colours : (Nat → Int32)) (v_targets : (Nat → Int32)) : va_W := [(a_this, .inr (4, [.ref a_table, .ref a_targets, .ref a_rowImages, .ref a_classOf, .int v_count])), (a_table, .inr (3, [.int v_table_columnCount, .int v_table_neededCount, .ref a_table_due, .ref a_table_columnsOf, .ref a_table_colours, .ref a_table_rowsOf, .ref a_table_clashesOf, .int v_table_rowCount])), (a_table_columnsOf, .inl (cI, 60, .inl v_table_columnsOf)), (a_table_colours, .inl (cB, 1440, .inl v_table_colours)), (a_targets, .inl (cI, 192, .inl v_targets))]
abbrev rm_X3_rowImage : Room := { frames := 1, cells := 0, slots := 0, locals := 28 }
theorem lk_X3_rowImage_f21 : Cond.fieldLink RX3 21 "LinkedCovers$Turns" "table" "LLinkedCovers$Table;" ∈ wsX3_rowImage := by decide +kernel
theorem lk_X3_rowImage_f44 : Cond.fieldLink RX3 44 "LinkedCovers$Table" "rowCount" "I" ∈ wsX3_rowImage := by decide +kernel
def f_X3_rowImage_2 (v_table_columnCount : Int32) (v_table_rowCount : Int32) (v_table_columnsOf : (Nat → Int32)) (v_table_colours : (Nat → Int32)) (v_targets : (Nat → Int32))  : Nat → Int32 → Int32 → Int32 → Option (Int32 × Unit)
  | 0 => fun _ _ _ => none
  | n + 1 => fun x1 x2 x3 => if v_table_rowCount ≤ x3 then
  (some (((-1 : Int32), ())))
  else
  ((f_X3_goesTo v_table_columnCount v_table_columnsOf v_table_colours v_targets x1 x2 x3).bind (fun o_2 =>
  if o_2.1 = 0 then
  (f_X3_rowImage_2 v_table_columnCount v_table_rowCount v_table_columnsOf v_table_colours v_targets n x1 x2 (x3 + 1))
  else
  (some ((x3, ())))))
def f_X3_rowImage (v_table_columnCount : Int32) (v_table_rowCount : Int32) (v_table_columnsOf : (Nat → Int32)) (v_table_colours : (Nat → Int32)) (v_targets : (Nat → Int32))  (x1 : Int32) (x2 : Int32) : Option (Int32 × Unit) :=
  f_X3_rowImage_2 v_table_columnCount v_table_rowCount v_table_columnsOf v_table_colours v_targets 1000000 x1 x2 (0 : Int32)
abbrev qc_X3_rowImage (A : Nat → Prop) (dC : Nat → ClassId) (dI : Nat → Nat → Nat) (cB cI cJ cZ : ClassId) (a_this a_table a_table_columnsOf a_table_colours a_targets a_rowImages a_classOf a_table_due a_table_rowsOf a_table_clashesOf : Nat) (v_count : Int32) (v_table_columnCount : Int32) (v_table_neededCount : Int32) (v_table_rowCount : Int32) (v_table_columnsOf : (Nat → Int32)) (v_table_colours : (Nat → Int32)) (v_targets : (Nat → Int32)) (out : Int32 × Unit) : Array Value → State → Outcome → State → Prop := va_Qi (fun (r : Int32) (u : Unit) => r = out.1 ∧ u = out.2) (fun (u : Unit) (t : State) => va_P (dC, dI) vwCl (ws_X3_rowImage cB cI cJ cZ a_this a_table a_table_columnsOf a_table_colours a_targets a_rowImages a_classOf a_table_due a_table_rowsOf a_table_clashesOf v_count v_table_columnCount v_table_neededCount v_table_rowCount v_table_columnsOf v_table_colours v_targets) t.heap ∧ va_K (dC, dI) vwCl (tysG cB cI cJ cZ) t ∧ va_D A (ws_X3_rowImage cB cI cJ cZ a_this a_table a_table_columnsOf a_table_colours a_targets a_rowImages a_classOf a_table_due a_table_rowsOf a_table_clashesOf v_count v_table_columnCount v_table_neededCount v_table_rowCount v_table_columnsOf v_table_colours v_targets)) A
abbrev g_X3_rowImage_2 (p : Program) (l : Launch) (e : Env) (s : State) (m : MethodId) (args : Array Value) (below : List Frame) (meth : Method) (c : Code) (A : Nat → Prop) (dC : Nat → ClassId) (dI : Nat → Nat → Nat) (cB cI cJ cZ : ClassId) (a_this a_table a_table_columnsOf a_table_colours a_targets a_rowImages a_classOf a_table_due a_table_rowsOf a_table_clashesOf : Nat) (v_count : Int32) (v_table_columnCount : Int32) (v_table_neededCount : Int32) (v_table_rowCount : Int32) (v_table_columnsOf : (Nat → Int32)) (v_table_colours : (Nat → Int32)) (v_targets : (Nat → Int32)) (out : Int32 × Unit) (k : Int32 → Int32 → Int32 → Option (Int32 × Unit)) : Prop := ∀ (x1 : Int32) (x2 : Int32) (x3 : Int32), k x1 x2 x3 = some out → ∀ (H : Heap) (locs : List Loc), va_P (dC, dI) vwCl (ws_X3_rowImage cB cI cJ cZ a_this a_table a_table_columnsOf a_table_colours a_targets a_rowImages a_classOf a_table_due a_table_rowsOf a_table_clashesOf v_count v_table_columnCount v_table_neededCount v_table_rowCount v_table_columnsOf v_table_colours v_targets) H → va_D A (ws_X3_rowImage cB cI cJ cZ a_this a_table a_table_columnsOf a_table_colours a_targets a_rowImages a_classOf a_table_due a_table_rowsOf a_table_clashesOf v_count v_table_columnCount v_table_neededCount v_table_rowCount v_table_columnsOf v_table_colours v_targets) → va_S A s.heap H locs → ∀ (ls : Array Slot), lv_has ls 4 [(0, .ref a_this), (1, .int x1), (2, .int x2), (3, .int x3)] → W p l e (headSpec wsX3_rowImage rm_X3_rowImage).room s m args below meth c H locs 0 0 (MQ below (qc_X3_rowImage A dC dI cB cI cJ cZ a_this a_table a_table_columnsOf a_table_colours a_targets a_rowImages a_classOf a_table_due a_table_rowsOf a_table_clashesOf v_count v_table_columnCount v_table_neededCount v_table_rowCount v_table_columnsOf v_table_colours v_targets out) args s 0 0 A) (F0 m 2 ls [])
abbrev g_X3_rowImage_0 (p : Program) (l : Launch) (e : Env) (s : State) (m : MethodId) (args : Array Value) (below : List Frame) (meth : Method) (c : Code) (A : Nat → Prop) (dC : Nat → ClassId) (dI : Nat → Nat → Nat) (cB cI cJ cZ : ClassId) (a_this a_table a_table_columnsOf a_table_colours a_targets a_rowImages a_classOf a_table_due a_table_rowsOf a_table_clashesOf : Nat) (v_count : Int32) (v_table_columnCount : Int32) (v_table_neededCount : Int32) (v_table_rowCount : Int32) (v_table_columnsOf : (Nat → Int32)) (v_table_colours : (Nat → Int32)) (v_targets : (Nat → Int32)) (out : Int32 × Unit) (k : Int32 → Int32 → Option (Int32 × Unit)) : Prop := ∀ (x1 : Int32) (x2 : Int32), k x1 x2 = some out → ∀ (H : Heap) (locs : List Loc), va_P (dC, dI) vwCl (ws_X3_rowImage cB cI cJ cZ a_this a_table a_table_columnsOf a_table_colours a_targets a_rowImages a_classOf a_table_due a_table_rowsOf a_table_clashesOf v_count v_table_columnCount v_table_neededCount v_table_rowCount v_table_columnsOf v_table_colours v_targets) H → va_D A (ws_X3_rowImage cB cI cJ cZ a_this a_table a_table_columnsOf a_table_colours a_targets a_rowImages a_classOf a_table_due a_table_rowsOf a_table_clashesOf v_count v_table_columnCount v_table_neededCount v_table_rowCount v_table_columnsOf v_table_colours v_targets) → va_S A s.heap H locs → ∀ (ls : Array Slot), lv_has ls 4 [(0, .ref a_this), (1, .int x1), (2, .int x2)] → W p l e (headSpec wsX3_rowImage rm_X3_rowImage).room s m args below meth c H locs 0 0 (MQ below (qc_X3_rowImage A dC dI cB cI cJ cZ a_this a_table a_table_columnsOf a_table_colours a_targets a_rowImages a_classOf a_table_due a_table_rowsOf a_table_clashesOf v_count v_table_columnCount v_table_neededCount v_table_rowCount v_table_columnsOf v_table_colours v_targets out) args s 0 0 A) (F0 m 0 ls [])
set_option maxHeartbeats 4000000 in
set_option maxRecDepth 100000 in
theorem w_X3_rowImage_2 {p : Program} {l : Launch} {e : Env} {s : State} {m : MethodId} {args : Array Value} {below : List Frame} {meth : Method} {c : Code} {A : Nat → Prop} {dC : Nat → ClassId} {dI : Nat → Nat → Nat} {cB cI cJ cZ : ClassId} {a_this a_table a_table_columnsOf a_table_colours a_targets a_rowImages a_classOf a_table_due a_table_rowsOf a_table_clashesOf : Nat} {v_count : Int32} {v_table_columnCount : Int32} {v_table_neededCount : Int32} {v_table_rowCount : Int32} {v_table_columnsOf : (Nat → Int32)} {v_table_colours : (Nat → Int32)} {v_targets : (Nat → Int32)} {out : Int32 × Unit} (C0 : Cx RX3 cX3_rowImage (some .int) 4 wsX3_rowImage p s m args meth c A) (hK : va_K (dC, dI) vwCl (tysG cB cI cJ cZ) s)  : ∀ n : Nat, g_X3_rowImage_2 p l e s m args below meth c A dC dI cB cI cJ cZ a_this a_table a_table_columnsOf a_table_colours a_targets a_rowImages a_classOf a_table_due a_table_rowsOf a_table_clashesOf v_count v_table_columnCount v_table_neededCount v_table_rowCount v_table_columnsOf v_table_colours v_targets out (f_X3_rowImage_2 v_table_columnCount v_table_rowCount v_table_columnsOf v_table_colours v_targets  n) := by
  obtain ⟨hx, hb, hr, hml, hown, hts, hlocks, hA⟩ := id C0
  intro n
  induction n with
  | zero =>
    intro x1 x2 x3 hf H locs hP hD hS ls hl
    exact nomatch (show (none : Option (Int32 × Unit)) = some out from hf)
  | succ n ih =>
    intro x1 x2 x3 hf H locs hP hD hS ls hl
    replace hf : ((if v_table_rowCount ≤ x3 then
  (some (((-1 : Int32), ())))
  else
  ((f_X3_goesTo v_table_columnCount v_table_columnsOf v_table_colours v_targets x1 x2 x3).bind (fun o_2 =>
  if o_2.1 = 0 then
  (f_X3_rowImage_2 v_table_columnCount v_table_rowCount v_table_columnsOf v_table_colours v_targets n x1 x2 (x3 + 1))
  else
  (some ((x3, ())))))) : Option (Int32 × Unit)) = some out := hf
    refine lv_iload_n hx hb dX3_rowImage_2 rfl (lv_at hl 3 rfl) ?_
    refine lv_aload_n hx hb dX3_rowImage_3 rfl (lv_at hl 0 rfl) ?_
    refine va_get (D := (dC, dI)) (ci := 4) (v := .ref a_table) (C := RX3) (T := TX3) (N := 5) hx hb hts in_X3_rowImage_X3 hown hK hP 0 rfl rfl 0 (by decide) (hts (.fieldLink RX3 21 "LinkedCovers$Turns" "table" "LLinkedCovers$Table;") lk_X3_rowImage_f21) (fun _ h9 => h9) rfl dX3_rowImage_4 ?_
    refine va_get (D := (dC, dI)) (ci := 3) (v := .int v_table_rowCount) (C := RX2) (T := TX2) (N := 8) hx hb hts in_X3_rowImage_X2 hown hK hP 1 rfl rfl 7 (by decide) (hts (.fieldLink RX3 44 "LinkedCovers$Table" "rowCount" "I") lk_X3_rowImage_f44) (fun _ h9 => h9) rfl dX3_rowImage_7 ?_
    refine lv_icmp_ge (tgt := 31) hx hb dX3_rowImage_10 (by decide) (fun c_1 => ?_) (fun c_1 => ?_)
    · replace hf := (if_pos c_1).symm.trans hf
      refine lv_iconst (v := -1) hx hb dX3_rowImage_31 (by decide) ?_
      have h9 := Option.some.inj hf
      have h8 := congrArg Prod.fst h9
      have h7 := congrArg Prod.snd h9
      exact W.iret (v := (-1 : Int32)) hx hb hr (fun t ht hW => ⟨⟨(-1 : Int32), (), rfl, ⟨h8, h7⟩, by rw [ht]; exact hP, va_K.moved hW.alike hK, hD⟩, hS.F ht⟩) hS.2.2 dX3_rowImage_32
    · replace hf := (if_neg c_1).symm.trans hf
      refine lv_aload_n hx hb dX3_rowImage_13 rfl (lv_at hl 0 rfl) ?_
      refine lv_iload_n hx hb dX3_rowImage_14 rfl (lv_at hl 1 rfl) ?_
      refine lv_iload_n hx hb dX3_rowImage_15 rfl (lv_at hl 2 rfl) ?_
      refine lv_iload_n hx hb dX3_rowImage_16 rfl (lv_at hl 3 rfl) ?_
      obtain ⟨o_2, ho_2, hf⟩ := gd_bd hf
      have hPc := hP.sub (ws' := ws_X3_goesTo cB cI cJ cZ a_this a_table a_table_columnsOf a_table_colours a_targets a_rowImages a_classOf a_table_due a_table_rowsOf a_table_clashesOf v_count v_table_columnCount v_table_neededCount v_table_rowCount v_table_columnsOf v_table_colours v_targets) [0, 1, 2, 3, 4] rfl
      have hDc := hD.sub (ws' := ws_X3_goesTo cB cI cJ cZ a_this a_table a_table_columnsOf a_table_colours a_targets a_rowImages a_classOf a_table_due a_table_rowsOf a_table_clashesOf v_count v_table_columnCount v_table_neededCount v_table_rowCount v_table_columnsOf v_table_colours v_targets) [0, 1, 2, 3, 4] (by decide) rfl
      have hFc := va_free (wc := ws_X3_goesTo cB cI cJ cZ a_this a_table a_table_columnsOf a_table_colours a_targets a_rowImages a_classOf a_table_due a_table_rowsOf a_table_clashesOf v_count v_table_columnCount v_table_neededCount v_table_rowCount v_table_columnsOf v_table_colours v_targets) hD hS hA [0, 1, 2, 3, 4] rfl
      refine va_calli (va_runV (As := [.int x1, .int x2, .int x3]) (rest := []) ⟨hx, hb, hml, hown, hts⟩ (c_X3_goesTo l dC dI cB cI cJ cZ a_this a_table a_table_columnsOf a_table_colours a_targets a_rowImages a_classOf a_table_due a_table_rowsOf a_table_clashesOf H.size v_count v_table_columnCount v_table_neededCount v_table_rowCount v_table_columnsOf v_table_colours v_targets x1 x2 x3 o_2 ho_2) (cwV 3 hts gX3_rowImage_X3_goesTo rfl rfl rfl ⟨rfl, nd_X3_goesTo⟩ ⟨Nat.le_of_ble_eq_true rfl, Nat.le_of_ble_eq_true rfl⟩) ⟨fun a U g mk q => by obtain ⟨q0, q1, qP, qK, qD⟩ := q; exact ⟨q0, q1, qP, va_K.moved (u := U) (U := U.calling g mk a) (Vm.Alike.refl U.vm) qK, qD⟩, va_recv hK hPc (ci := 4) (q0 := 0) rfl rfl, fun U hU hW => ⟨rfl, by rw [hU], by rw [hU]; exact hPc, va_K.moved hW.alike hK, hDc.weaken (fun _ _ _ _ => trivial)⟩⟩ rfl rfl hl.1 rfl (lv_room (Nat.le_of_ble_eq_true rfl)) dX3_rowImage_17 ⟨Nat.le_of_ble_eq_true rfl, Nat.le_of_ble_eq_true rfl⟩) hS (fun q _ h => hFc q h) hFc (fun r_2 u_2 t H1 locs ht hvm hw hB hz1 hk1 hS => ?_)
      obtain ⟨rfl, rfl⟩ := hw
      obtain ⟨hP1, hK1, hD1⟩ := hB
      rw [ht] at hP1
      obtain ⟨hP, hD⟩ := va_join (wr := []) (w1 := ws_X3_goesTo cB cI cJ cZ a_this a_table a_table_columnsOf a_table_colours a_targets a_rowImages a_classOf a_table_due a_table_rowsOf a_table_clashesOf v_count v_table_columnCount v_table_neededCount v_table_rowCount v_table_columnsOf v_table_colours v_targets) hP hD [0, 1, 2, 3, 4] [] rfl rfl (by decide) (by decide) hk1 hFc hP1 hD1
      generalize H1 = H at hP hS ⊢
      have hP : va_P (dC, dI) vwCl (ws_X3_rowImage cB cI cJ cZ a_this a_table a_table_columnsOf a_table_colours a_targets a_rowImages a_classOf a_table_due a_table_rowsOf a_table_clashesOf v_count v_table_columnCount v_table_neededCount v_table_rowCount v_table_columnsOf v_table_colours v_targets) H := hP.sub [0, 1, 2, 3, 4] rfl
      have hD : va_D A (ws_X3_rowImage cB cI cJ cZ a_this a_table a_table_columnsOf a_table_colours a_targets a_rowImages a_classOf a_table_due a_table_rowsOf a_table_clashesOf v_count v_table_columnCount v_table_neededCount v_table_rowCount v_table_columnsOf v_table_colours v_targets) := hD.sub [0, 1, 2, 3, 4] (by decide) rfl
      refine lv_if_eq (tgt := 25) hx hb dX3_rowImage_20 (by decide) (fun c_3 => ?_) (fun c_3 => ?_)
      · replace hf := (if_pos c_3).symm.trans hf
        refine lv_iinc (v := (x3 + 1)) (lv' := [(3, .int (x3 + 1)), (0, .ref a_this), (1, .int x1), (2, .int x2)]) hx hb dX3_rowImage_25 hl (k := 3) rfl rfl (by decide) rfl (fun ls hl => ?_)
        refine lv_goto (tgt := 2) hx hb dX3_rowImage_28 (by decide) ?_
        exact ih x1 x2 (x3 + 1) hf _ _ hP hD hS ls (lv_sub hl [1, 2, 3, 0] rfl)
      · replace hf := (if_neg c_3).symm.trans hf
        refine lv_iload_n hx hb dX3_rowImage_23 rfl (lv_at hl 3 rfl) ?_
        have h9 := Option.some.inj hf
        have h8 := congrArg Prod.fst h9
        have h7 := congrArg Prod.snd h9
        exact W.iret (v := x3) hx hb hr (fun t ht hW => ⟨⟨x3, (), rfl, ⟨h8, h7⟩, by rw [ht]; exact hP, va_K.moved hW.alike hK, hD⟩, hS.F ht⟩) hS.2.2 dX3_rowImage_24
set_option maxHeartbeats 4000000 in
set_option maxRecDepth 100000 in
theorem w_X3_rowImage_0 {p : Program} {l : Launch} {e : Env} {s : State} {m : MethodId} {args : Array Value} {below : List Frame} {meth : Method} {c : Code} {A : Nat → Prop} {dC : Nat → ClassId} {dI : Nat → Nat → Nat} {cB cI cJ cZ : ClassId} {a_this a_table a_table_columnsOf a_table_colours a_targets a_rowImages a_classOf a_table_due a_table_rowsOf a_table_clashesOf : Nat} {v_count : Int32} {v_table_columnCount : Int32} {v_table_neededCount : Int32} {v_table_rowCount : Int32} {v_table_columnsOf : (Nat → Int32)} {v_table_colours : (Nat → Int32)} {v_targets : (Nat → Int32)} {out : Int32 × Unit} (C0 : Cx RX3 cX3_rowImage (some .int) 4 wsX3_rowImage p s m args meth c A) (hK : va_K (dC, dI) vwCl (tysG cB cI cJ cZ) s)  : g_X3_rowImage_0 p l e s m args below meth c A dC dI cB cI cJ cZ a_this a_table a_table_columnsOf a_table_colours a_targets a_rowImages a_classOf a_table_due a_table_rowsOf a_table_clashesOf v_count v_table_columnCount v_table_neededCount v_table_rowCount v_table_columnsOf v_table_colours v_targets out (f_X3_rowImage v_table_columnCount v_table_rowCount v_table_columnsOf v_table_colours v_targets ) := by
  obtain ⟨hx, hb, hr, hml, hown, hts, hlocks, hA⟩ := id C0
  intro x1 x2 hf H locs hP hD hS ls hl
  replace hf : ((f_X3_rowImage_2 v_table_columnCount v_table_rowCount v_table_columnsOf v_table_colours v_targets 1000000 x1 x2 (0 : Int32)) : Option (Int32 × Unit)) = some out := hf
  refine lv_iconst (v := 0) hx hb dX3_rowImage_0 (by decide) ?_
  refine lv_istore_n (lv' := [(3, .int (0 : Int32)), (0, .ref a_this), (1, .int x1), (2, .int x2)]) hx hb dX3_rowImage_1 rfl hl (by decide) rfl (fun ls hl => ?_)
  exact w_X3_rowImage_2 C0 hK 1000000 x1 x2 (0 : Int32) hf _ _ hP hD hS ls (lv_sub hl [1, 2, 3, 0] rfl)
theorem nd_X3_rowImage : yX3_rowImage.cls ≠ "java/lang/invoke/MethodHandle" ∧ yX3_rowImage.cls ≠ "java/lang/invoke/VarHandle" ∧ (parseMethodDescriptor yX3_rowImage.desc).map (fun d => d.parameters.length) = some 2 := by decide +kernel
set_option maxHeartbeats 4000000 in
set_option maxRecDepth 100000 in
theorem c_X3_rowImage (l : Launch) (dC : Nat → ClassId) (dI : Nat → Nat → Nat) (cB cI cJ cZ : ClassId) (a_this a_table a_table_columnsOf a_table_colours a_targets a_rowImages a_classOf a_table_due a_table_rowsOf a_table_clashesOf : Nat) (sz : Nat) (v_count : Int32) (v_table_columnCount : Int32) (v_table_neededCount : Int32) (v_table_rowCount : Int32) (v_table_columnsOf : (Nat → Int32)) (v_table_colours : (Nat → Int32)) (v_targets : (Nat → Int32)) (x1 : Int32) (x2 : Int32) (out : Int32 × Unit) (hf : f_X3_rowImage v_table_columnCount v_table_rowCount v_table_columnsOf v_table_colours v_targets x1 x2 = some out) : Met l yX3_rowImage wsX3_rowImage rm_X3_rowImage (va_Pc [.ref a_this, .int x1, .int x2] (fun U => U.heap.size = sz ∧ va_P (dC, dI) vwCl (ws_X3_rowImage cB cI cJ cZ a_this a_table a_table_columnsOf a_table_colours a_targets a_rowImages a_classOf a_table_due a_table_rowsOf a_table_clashesOf v_count v_table_columnCount v_table_neededCount v_table_rowCount v_table_columnsOf v_table_colours v_targets) U.heap ∧ va_K (dC, dI) vwCl (tysG cB cI cJ cZ) U ∧ va_D (fun _ => True) (ws_X3_rowImage cB cI cJ cZ a_this a_table a_table_columnsOf a_table_colours a_targets a_rowImages a_classOf a_table_due a_table_rowsOf a_table_clashesOf v_count v_table_columnCount v_table_neededCount v_table_rowCount v_table_columnsOf v_table_colours v_targets))) (qc_X3_rowImage (va_A (ws_X3_rowImage cB cI cJ cZ a_this a_table a_table_columnsOf a_table_colours a_targets a_rowImages a_classOf a_table_due a_table_rowsOf a_table_clashesOf v_count v_table_columnCount v_table_neededCount v_table_rowCount v_table_columnsOf v_table_colours v_targets) sz) dC dI cB cI cJ cZ a_this a_table a_table_columnsOf a_table_colours a_targets a_rowImages a_classOf a_table_due a_table_rowsOf a_table_clashesOf v_count v_table_columnCount v_table_neededCount v_table_rowCount v_table_columnsOf v_table_colours v_targets out) 0 0 (va_A (ws_X3_rowImage cB cI cJ cZ a_this a_table a_table_columnsOf a_table_colours a_targets a_rowImages a_classOf a_table_due a_table_rowsOf a_table_clashesOf v_count v_table_columnCount v_table_neededCount v_table_rowCount v_table_columnsOf v_table_colours v_targets) sz) := by
  refine Met.ofW (cc := cX3_rowImage) (maxL := 4) (ret := (some .int)) (by decide) rfl ?_
  intro p e s m args below meth c s₁ B hml hv
  obtain ⟨rfl, hsz, hP, hK, hD0⟩ := hv
  subst hsz
  have hD := hD0.self (sz := s.heap.size)
  generalize hAe : va_A (ws_X3_rowImage cB cI cJ cZ a_this a_table a_table_columnsOf a_table_colours a_targets a_rowImages a_classOf a_table_due a_table_rowsOf a_table_clashesOf v_count v_table_columnCount v_table_neededCount v_table_rowCount v_table_columnsOf v_table_colours v_targets) s.heap.size = A at hD ⊢
  have hA : ∀ q : Nat, s.heap.size ≤ q → A q := fun q h => by rw [← hAe]; exact Or.inr h
  have hl := lv_entry ([.ref a_this, .int x1, .int x2]) (n := 4) (Nat.le_of_ble_eq_true rfl)
  rw [lg_entry_eq]
  generalize (lg_sl ([.ref a_this, .int x1, .int x2]) ++ List.replicate (4 - (lg_sl ([.ref a_this, .int x1, .int x2])).length) Slot.unset).toArray = ls at hl ⊢
  have hl : lv_has ls 4 [(0, .ref a_this), (1, .int x1), (2, .int x2)] := hl
  exact w_X3_rowImage_0 ⟨B.exec, B.bytes, B.returns, hml, findClass_of_methodNamed B.named, atoms_spec (ws := wsX3_rowImage) B.pre, B.notSynchronized, hA⟩ hK x1 x2 hf _ _ hP hD va_S.rf ls (lv_sub hl [0, 1, 2] rfl)
-- X3.findRowImages(I)Z: 29 instructions
theorem in_X3_findRowImages_X2 : ∀ w ∈ wsX20, w ∈ wsX3_findRowImages := by decide +kernel
theorem in_X3_findRowImages_X3 : ∀ w ∈ wsX30, w ∈ wsX3_findRowImages := by decide +kernel
abbrev ws_X3_findRowImages (cB cI cJ cZ : ClassId) (a_this a_table a_table_columnsOf a_table_colours a_targets a_rowImages a_classOf a_table_due a_table_rowsOf a_table_clashesOf : Nat) (v_count : Int32) (v_table_columnCount : Int32) (v_table_neededCount : Int32) (v_table_rowCount : Int32) (v_table_columnsOf : (Nat → Int32)) (v_table_colours : (Nat → Int32)) (v_targets : (Nat → Int32)) (v_rowImages : (Nat → Int32)) : va_W := [(a_this, .inr (4, [.ref a_table, .ref a_targets, .ref a_rowImages, .ref a_classOf, .int v_count])), (a_table, .inr (3, [.int v_table_columnCount, .int v_table_neededCount, .ref a_table_due, .ref a_table_columnsOf, .ref a_table_colours, .ref a_table_rowsOf, .ref a_table_clashesOf, .int v_table_rowCount])), (a_table_columnsOf, .inl (cI, 60, .inl v_table_columnsOf)), (a_table_colours, .inl (cB, 1440, .inl v_table_colours)), (a_targets, .inl (cI, 192, .inl v_targets)), (a_rowImages, .inl (cI, 480, .inl v_rowImages))]
abbrev rm_X3_findRowImages : Room := { frames := 2, cells := 0, slots := 0, locals := 51 }
theorem lk_X3_findRowImages_f21 : Cond.fieldLink RX3 21 "LinkedCovers$Turns" "table" "LLinkedCovers$Table;" ∈ wsX3_findRowImages := by decide +kernel
theorem lk_X3_findRowImages_f44 : Cond.fieldLink RX3 44 "LinkedCovers$Table" "rowCount" "I" ∈ wsX3_findRowImages := by decide +kernel
theorem lk_X3_findRowImages_f15 : Cond.fieldLink RX3 15 "LinkedCovers$Turns" "rowImages" "[I" ∈ wsX3_findRowImages := by decide +kernel
def f_X3_findRowImages_2 (v_table_columnCount : Int32) (v_table_rowCount : Int32) (v_table_columnsOf : (Nat → Int32)) (v_table_colours : (Nat → Int32)) (v_targets : (Nat → Int32))  : Nat → (Nat → Int32) → Int32 → Int32 → Option (Int32 × (Nat → Int32))
  | 0 => fun _ _ _ => none
  | n + 1 => fun v_rowImages x1 x2 => if v_table_rowCount ≤ x2 then
  (some (((1 : Int32), v_rowImages)))
  else
  ((f_X3_rowImage v_table_columnCount v_table_rowCount v_table_columnsOf v_table_colours v_targets x1 x2).bind (fun o_2 =>
  if 0 ≤ o_2.1 then
  (if (((x1 * (60 : Int32)) + x2) < 0 ∨ 480 ≤ Int32.toNatClampNeg ((x1 * (60 : Int32)) + x2)) then none else
  f_X3_findRowImages_2 v_table_columnCount v_table_rowCount v_table_columnsOf v_table_colours v_targets n (upd v_rowImages (Int32.toNatClampNeg ((x1 * (60 : Int32)) + x2)) o_2.1) x1 (x2 + 1))
  else
  (some (((0 : Int32), v_rowImages)))))
def f_X3_findRowImages (v_table_columnCount : Int32) (v_table_rowCount : Int32) (v_table_columnsOf : (Nat → Int32)) (v_table_colours : (Nat → Int32)) (v_targets : (Nat → Int32))  (v_rowImages : (Nat → Int32)) (x1 : Int32) : Option (Int32 × (Nat → Int32)) :=
  f_X3_findRowImages_2 v_table_columnCount v_table_rowCount v_table_columnsOf v_table_colours v_targets 1000000 v_rowImages x1 (0 : Int32)
abbrev qc_X3_findRowImages (A : Nat → Prop) (dC : Nat → ClassId) (dI : Nat → Nat → Nat) (cB cI cJ cZ : ClassId) (a_this a_table a_table_columnsOf a_table_colours a_targets a_rowImages a_classOf a_table_due a_table_rowsOf a_table_clashesOf : Nat) (v_count : Int32) (v_table_columnCount : Int32) (v_table_neededCount : Int32) (v_table_rowCount : Int32) (v_table_columnsOf : (Nat → Int32)) (v_table_colours : (Nat → Int32)) (v_targets : (Nat → Int32)) (out : Int32 × (Nat → Int32)) : Array Value → State → Outcome → State → Prop := va_Qi (fun (r : Int32) (u : (Nat → Int32)) => r = out.1 ∧ u = out.2) (fun (u : (Nat → Int32)) (t : State) => va_P (dC, dI) vwCl (ws_X3_findRowImages cB cI cJ cZ a_this a_table a_table_columnsOf a_table_colours a_targets a_rowImages a_classOf a_table_due a_table_rowsOf a_table_clashesOf v_count v_table_columnCount v_table_neededCount v_table_rowCount v_table_columnsOf v_table_colours v_targets u) t.heap ∧ va_K (dC, dI) vwCl (tysG cB cI cJ cZ) t ∧ va_D A (ws_X3_findRowImages cB cI cJ cZ a_this a_table a_table_columnsOf a_table_colours a_targets a_rowImages a_classOf a_table_due a_table_rowsOf a_table_clashesOf v_count v_table_columnCount v_table_neededCount v_table_rowCount v_table_columnsOf v_table_colours v_targets u)) A
abbrev g_X3_findRowImages_2 (p : Program) (l : Launch) (e : Env) (s : State) (m : MethodId) (args : Array Value) (below : List Frame) (meth : Method) (c : Code) (A : Nat → Prop) (dC : Nat → ClassId) (dI : Nat → Nat → Nat) (cB cI cJ cZ : ClassId) (a_this a_table a_table_columnsOf a_table_colours a_targets a_rowImages a_classOf a_table_due a_table_rowsOf a_table_clashesOf : Nat) (v_count : Int32) (v_table_columnCount : Int32) (v_table_neededCount : Int32) (v_table_rowCount : Int32) (v_table_columnsOf : (Nat → Int32)) (v_table_colours : (Nat → Int32)) (v_targets : (Nat → Int32)) (out : Int32 × (Nat → Int32)) (k : (Nat → Int32) → Int32 → Int32 → Option (Int32 × (Nat → Int32))) : Prop := ∀ (v_rowImages : (Nat → Int32)) (x1 : Int32) (x2 : Int32), k v_rowImages x1 x2 = some out → ∀ (H : Heap) (locs : List Loc), va_P (dC, dI) vwCl (ws_X3_findRowImages cB cI cJ cZ a_this a_table a_table_columnsOf a_table_colours a_targets a_rowImages a_classOf a_table_due a_table_rowsOf a_table_clashesOf v_count v_table_columnCount v_table_neededCount v_table_rowCount v_table_columnsOf v_table_colours v_targets v_rowImages) H → va_D A (ws_X3_findRowImages cB cI cJ cZ a_this a_table a_table_columnsOf a_table_colours a_targets a_rowImages a_classOf a_table_due a_table_rowsOf a_table_clashesOf v_count v_table_columnCount v_table_neededCount v_table_rowCount v_table_columnsOf v_table_colours v_targets v_rowImages) → va_S A s.heap H locs → ∀ (ls : Array Slot), lv_has ls 4 [(0, .ref a_this), (1, .int x1), (2, .int x2)] → W p l e (headSpec wsX3_findRowImages rm_X3_findRowImages).room s m args below meth c H locs 0 0 (MQ below (qc_X3_findRowImages A dC dI cB cI cJ cZ a_this a_table a_table_columnsOf a_table_colours a_targets a_rowImages a_classOf a_table_due a_table_rowsOf a_table_clashesOf v_count v_table_columnCount v_table_neededCount v_table_rowCount v_table_columnsOf v_table_colours v_targets out) args s 0 0 A) (F0 m 2 ls [])
abbrev g_X3_findRowImages_0 (p : Program) (l : Launch) (e : Env) (s : State) (m : MethodId) (args : Array Value) (below : List Frame) (meth : Method) (c : Code) (A : Nat → Prop) (dC : Nat → ClassId) (dI : Nat → Nat → Nat) (cB cI cJ cZ : ClassId) (a_this a_table a_table_columnsOf a_table_colours a_targets a_rowImages a_classOf a_table_due a_table_rowsOf a_table_clashesOf : Nat) (v_count : Int32) (v_table_columnCount : Int32) (v_table_neededCount : Int32) (v_table_rowCount : Int32) (v_table_columnsOf : (Nat → Int32)) (v_table_colours : (Nat → Int32)) (v_targets : (Nat → Int32)) (out : Int32 × (Nat → Int32)) (k : (Nat → Int32) → Int32 → Option (Int32 × (Nat → Int32))) : Prop := ∀ (v_rowImages : (Nat → Int32)) (x1 : Int32), k v_rowImages x1 = some out → ∀ (H : Heap) (locs : List Loc), va_P (dC, dI) vwCl (ws_X3_findRowImages cB cI cJ cZ a_this a_table a_table_columnsOf a_table_colours a_targets a_rowImages a_classOf a_table_due a_table_rowsOf a_table_clashesOf v_count v_table_columnCount v_table_neededCount v_table_rowCount v_table_columnsOf v_table_colours v_targets v_rowImages) H → va_D A (ws_X3_findRowImages cB cI cJ cZ a_this a_table a_table_columnsOf a_table_colours a_targets a_rowImages a_classOf a_table_due a_table_rowsOf a_table_clashesOf v_count v_table_columnCount v_table_neededCount v_table_rowCount v_table_columnsOf v_table_colours v_targets v_rowImages) → va_S A s.heap H locs → ∀ (ls : Array Slot), lv_has ls 4 [(0, .ref a_this), (1, .int x1)] → W p l e (headSpec wsX3_findRowImages rm_X3_findRowImages).room s m args below meth c H locs 0 0 (MQ below (qc_X3_findRowImages A dC dI cB cI cJ cZ a_this a_table a_table_columnsOf a_table_colours a_targets a_rowImages a_classOf a_table_due a_table_rowsOf a_table_clashesOf v_count v_table_columnCount v_table_neededCount v_table_rowCount v_table_columnsOf v_table_colours v_targets out) args s 0 0 A) (F0 m 0 ls [])
set_option maxHeartbeats 4000000 in
set_option maxRecDepth 100000 in
theorem w_X3_findRowImages_2 {p : Program} {l : Launch} {e : Env} {s : State} {m : MethodId} {args : Array Value} {below : List Frame} {meth : Method} {c : Code} {A : Nat → Prop} {dC : Nat → ClassId} {dI : Nat → Nat → Nat} {cB cI cJ cZ : ClassId} {a_this a_table a_table_columnsOf a_table_colours a_targets a_rowImages a_classOf a_table_due a_table_rowsOf a_table_clashesOf : Nat} {v_count : Int32} {v_table_columnCount : Int32} {v_table_neededCount : Int32} {v_table_rowCount : Int32} {v_table_columnsOf : (Nat → Int32)} {v_table_colours : (Nat → Int32)} {v_targets : (Nat → Int32)} {out : Int32 × (Nat → Int32)} (C0 : Cx RX3 cX3_findRowImages (some .boolean) 4 wsX3_findRowImages p s m args meth c A) (hK : va_K (dC, dI) vwCl (tysG cB cI cJ cZ) s)  : ∀ n : Nat, g_X3_findRowImages_2 p l e s m args below meth c A dC dI cB cI cJ cZ a_this a_table a_table_columnsOf a_table_colours a_targets a_rowImages a_classOf a_table_due a_table_rowsOf a_table_clashesOf v_count v_table_columnCount v_table_neededCount v_table_rowCount v_table_columnsOf v_table_colours v_targets out (f_X3_findRowImages_2 v_table_columnCount v_table_rowCount v_table_columnsOf v_table_colours v_targets  n) := by
  obtain ⟨hx, hb, hr, hml, hown, hts, hlocks, hA⟩ := id C0
  intro n
  induction n with
  | zero =>
    intro v_rowImages x1 x2 hf H locs hP hD hS ls hl
    exact nomatch (show (none : Option (Int32 × (Nat → Int32))) = some out from hf)
  | succ n ih =>
    intro v_rowImages x1 x2 hf H locs hP hD hS ls hl
    replace hf : ((if v_table_rowCount ≤ x2 then
  (some (((1 : Int32), v_rowImages)))
  else
  ((f_X3_rowImage v_table_columnCount v_table_rowCount v_table_columnsOf v_table_colours v_targets x1 x2).bind (fun o_2 =>
  if 0 ≤ o_2.1 then
  (if (((x1 * (60 : Int32)) + x2) < 0 ∨ 480 ≤ Int32.toNatClampNeg ((x1 * (60 : Int32)) + x2)) then none else
  f_X3_findRowImages_2 v_table_columnCount v_table_rowCount v_table_columnsOf v_table_colours v_targets n (upd v_rowImages (Int32.toNatClampNeg ((x1 * (60 : Int32)) + x2)) o_2.1) x1 (x2 + 1))
  else
  (some (((0 : Int32), v_rowImages)))))) : Option (Int32 × (Nat → Int32))) = some out := hf
    refine lv_iload_n hx hb dX3_findRowImages_2 rfl (lv_at hl 2 rfl) ?_
    refine lv_aload_n hx hb dX3_findRowImages_3 rfl (lv_at hl 0 rfl) ?_
    refine va_get (D := (dC, dI)) (ci := 4) (v := .ref a_table) (C := RX3) (T := TX3) (N := 5) hx hb hts in_X3_findRowImages_X3 hown hK hP 0 rfl rfl 0 (by decide) (hts (.fieldLink RX3 21 "LinkedCovers$Turns" "table" "LLinkedCovers$Table;") lk_X3_findRowImages_f21) (fun _ h9 => h9) rfl dX3_findRowImages_4 ?_
    refine va_get (D := (dC, dI)) (ci := 3) (v := .int v_table_rowCount) (C := RX2) (T := TX2) (N := 8) hx hb hts in_X3_findRowImages_X2 hown hK hP 1 rfl rfl 7 (by decide) (hts (.fieldLink RX3 44 "LinkedCovers$Table" "rowCount" "I") lk_X3_findRowImages_f44) (fun _ h9 => h9) rfl dX3_findRowImages_7 ?_
    refine lv_icmp_ge (tgt := 44) hx hb dX3_findRowImages_10 (by decide) (fun c_1 => ?_) (fun c_1 => ?_)
    · replace hf := (if_pos c_1).symm.trans hf
      refine lv_iconst (v := 1) hx hb dX3_findRowImages_44 (by decide) ?_
      have h9 := Option.some.inj hf
      have h8 := congrArg Prod.fst h9
      have h7 := congrArg Prod.snd h9
      exact W.zret (v := (1 : Int32)) hx hb hr rfl (fun t ht hW => ⟨⟨(1 : Int32), v_rowImages, rfl, ⟨h8, h7⟩, by rw [ht]; exact hP, va_K.moved hW.alike hK, hD⟩, hS.F ht⟩) hS.2.2 dX3_findRowImages_45
    · replace hf := (if_neg c_1).symm.trans hf
      refine lv_aload_n hx hb dX3_findRowImages_13 rfl (lv_at hl 0 rfl) ?_
      refine lv_iload_n hx hb dX3_findRowImages_14 rfl (lv_at hl 1 rfl) ?_
      refine lv_iload_n hx hb dX3_findRowImages_15 rfl (lv_at hl 2 rfl) ?_
      obtain ⟨o_2, ho_2, hf⟩ := gd_bd hf
      have hPc := hP.sub (ws' := ws_X3_rowImage cB cI cJ cZ a_this a_table a_table_columnsOf a_table_colours a_targets a_rowImages a_classOf a_table_due a_table_rowsOf a_table_clashesOf v_count v_table_columnCount v_table_neededCount v_table_rowCount v_table_columnsOf v_table_colours v_targets) [0, 1, 2, 3, 4] rfl
      have hDc := hD.sub (ws' := ws_X3_rowImage cB cI cJ cZ a_this a_table a_table_columnsOf a_table_colours a_targets a_rowImages a_classOf a_table_due a_table_rowsOf a_table_clashesOf v_count v_table_columnCount v_table_neededCount v_table_rowCount v_table_columnsOf v_table_colours v_targets) [0, 1, 2, 3, 4] (by decide) rfl
      have hFc := va_free (wc := ws_X3_rowImage cB cI cJ cZ a_this a_table a_table_columnsOf a_table_colours a_targets a_rowImages a_classOf a_table_due a_table_rowsOf a_table_clashesOf v_count v_table_columnCount v_table_neededCount v_table_rowCount v_table_columnsOf v_table_colours v_targets) hD hS hA [0, 1, 2, 3, 4] rfl
      refine va_calli (va_runV (As := [.int x1, .int x2]) (rest := []) ⟨hx, hb, hml, hown, hts⟩ (c_X3_rowImage l dC dI cB cI cJ cZ a_this a_table a_table_columnsOf a_table_colours a_targets a_rowImages a_classOf a_table_due a_table_rowsOf a_table_clashesOf H.size v_count v_table_columnCount v_table_neededCount v_table_rowCount v_table_columnsOf v_table_colours v_targets x1 x2 o_2 ho_2) (cwV 2 hts gX3_findRowImages_X3_rowImage rfl rfl rfl ⟨rfl, nd_X3_rowImage⟩ ⟨Nat.le_of_ble_eq_true rfl, Nat.le_of_ble_eq_true rfl⟩) ⟨fun a U g mk q => by obtain ⟨q0, q1, qP, qK, qD⟩ := q; exact ⟨q0, q1, qP, va_K.moved (u := U) (U := U.calling g mk a) (Vm.Alike.refl U.vm) qK, qD⟩, va_recv hK hPc (ci := 4) (q0 := 0) rfl rfl, fun U hU hW => ⟨rfl, by rw [hU], by rw [hU]; exact hPc, va_K.moved hW.alike hK, hDc.weaken (fun _ _ _ _ => trivial)⟩⟩ rfl rfl hl.1 rfl (lv_room (Nat.le_of_ble_eq_true rfl)) dX3_findRowImages_16 ⟨Nat.le_of_ble_eq_true rfl, Nat.le_of_ble_eq_true rfl⟩) hS (fun q _ h => hFc q h) hFc (fun r_2 u_2 t H1 locs ht hvm hw hB hz1 hk1 hS => ?_)
      obtain ⟨rfl, rfl⟩ := hw
      obtain ⟨hP1, hK1, hD1⟩ := hB
      rw [ht] at hP1
      obtain ⟨hP, hD⟩ := va_join (wr := [(a_rowImages, .inl (cI, 480, .inl v_rowImages))]) (w1 := ws_X3_rowImage cB cI cJ cZ a_this a_table a_table_columnsOf a_table_colours a_targets a_rowImages a_classOf a_table_due a_table_rowsOf a_table_clashesOf v_count v_table_columnCount v_table_neededCount v_table_rowCount v_table_columnsOf v_table_colours v_targets) hP hD [0, 1, 2, 3, 4] [5] rfl rfl (by decide) (by decide) hk1 hFc hP1 hD1
      generalize H1 = H at hP hS ⊢
      have hP : va_P (dC, dI) vwCl (ws_X3_findRowImages cB cI cJ cZ a_this a_table a_table_columnsOf a_table_colours a_targets a_rowImages a_classOf a_table_due a_table_rowsOf a_table_clashesOf v_count v_table_columnCount v_table_neededCount v_table_rowCount v_table_columnsOf v_table_colours v_targets v_rowImages) H := hP.sub [1, 2, 3, 4, 5, 0] rfl
      have hD : va_D A (ws_X3_findRowImages cB cI cJ cZ a_this a_table a_table_columnsOf a_table_colours a_targets a_rowImages a_classOf a_table_due a_table_rowsOf a_table_clashesOf v_count v_table_columnCount v_table_neededCount v_table_rowCount v_table_columnsOf v_table_colours v_targets v_rowImages) := hD.sub [1, 2, 3, 4, 5, 0] (by decide) rfl
      refine lv_istore_n (lv' := [(3, .int o_2.1), (0, .ref a_this), (1, .int x1), (2, .int x2)]) hx hb dX3_findRowImages_19 rfl hl (by decide) rfl (fun ls hl => ?_)
      refine lv_iload_n hx hb dX3_findRowImages_20 rfl (lv_at hl 0 rfl) ?_
      refine lv_if_ge (tgt := 26) hx hb dX3_findRowImages_21 (by decide) (fun c_3 => ?_) (fun c_3 => ?_)
      · replace hf := (if_pos c_3).symm.trans hf
        refine lv_aload_n hx hb dX3_findRowImages_26 rfl (lv_at hl 1 rfl) ?_
        refine va_get (D := (dC, dI)) (ci := 4) (v := .ref a_rowImages) (C := RX3) (T := TX3) (N := 5) hx hb hts in_X3_findRowImages_X3 hown hK hP 0 rfl rfl 2 (by decide) (hts (.fieldLink RX3 15 "LinkedCovers$Turns" "rowImages" "[I") lk_X3_findRowImages_f15) (fun _ h9 => h9) rfl dX3_findRowImages_27 ?_
        refine lv_iload_n hx hb dX3_findRowImages_30 rfl (lv_at hl 2 rfl) ?_
        refine lv_bipush (v := 60) hx hb dX3_findRowImages_31 (by decide) ?_
        refine lv_imul hx hb dX3_findRowImages_33 ?_
        refine lv_iload_n hx hb dX3_findRowImages_34 rfl (lv_at hl 3 rfl) ?_
        refine lv_iadd hx hb dX3_findRowImages_35 ?_
        refine lv_iload_n hx hb dX3_findRowImages_36 rfl (lv_at hl 0 rfl) ?_
        obtain ⟨h_4, hf⟩ := gd_ck hf
        refine va_iast hx hb hK hP hD hS 5 1 rfl rfl h_4 dX3_findRowImages_37 (fun H locs hP hD hS => ?_)
        have hP : va_P (dC, dI) vwCl (ws_X3_findRowImages cB cI cJ cZ a_this a_table a_table_columnsOf a_table_colours a_targets a_rowImages a_classOf a_table_due a_table_rowsOf a_table_clashesOf v_count v_table_columnCount v_table_neededCount v_table_rowCount v_table_columnsOf v_table_colours v_targets (upd v_rowImages (Int32.toNatClampNeg ((x1 * (60 : Int32)) + x2)) o_2.1)) H := hP
        have hD : va_D A (ws_X3_findRowImages cB cI cJ cZ a_this a_table a_table_columnsOf a_table_colours a_targets a_rowImages a_classOf a_table_due a_table_rowsOf a_table_clashesOf v_count v_table_columnCount v_table_neededCount v_table_rowCount v_table_columnsOf v_table_colours v_targets (upd v_rowImages (Int32.toNatClampNeg ((x1 * (60 : Int32)) + x2)) o_2.1)) := hD
        refine lv_iinc (v := (x2 + 1)) (lv' := [(2, .int (x2 + 1)), (3, .int o_2.1), (0, .ref a_this), (1, .int x1)]) hx hb dX3_findRowImages_38 hl (k := 3) rfl rfl (by decide) rfl (fun ls hl => ?_)
        refine lv_goto (tgt := 2) hx hb dX3_findRowImages_41 (by decide) ?_
        exact ih (upd v_rowImages (Int32.toNatClampNeg ((x1 * (60 : Int32)) + x2)) o_2.1) x1 (x2 + 1) hf _ _ hP hD hS ls (lv_sub hl [2, 3, 0] rfl)
      · replace hf := (if_neg c_3).symm.trans hf
        refine lv_iconst (v := 0) hx hb dX3_findRowImages_24 (by decide) ?_
        have h9 := Option.some.inj hf
        have h8 := congrArg Prod.fst h9
        have h7 := congrArg Prod.snd h9
        exact W.zret (v := (0 : Int32)) hx hb hr rfl (fun t ht hW => ⟨⟨(0 : Int32), v_rowImages, rfl, ⟨h8, h7⟩, by rw [ht]; exact hP, va_K.moved hW.alike hK, hD⟩, hS.F ht⟩) hS.2.2 dX3_findRowImages_25
set_option maxHeartbeats 4000000 in
set_option maxRecDepth 100000 in
theorem w_X3_findRowImages_0 {p : Program} {l : Launch} {e : Env} {s : State} {m : MethodId} {args : Array Value} {below : List Frame} {meth : Method} {c : Code} {A : Nat → Prop} {dC : Nat → ClassId} {dI : Nat → Nat → Nat} {cB cI cJ cZ : ClassId} {a_this a_table a_table_columnsOf a_table_colours a_targets a_rowImages a_classOf a_table_due a_table_rowsOf a_table_clashesOf : Nat} {v_count : Int32} {v_table_columnCount : Int32} {v_table_neededCount : Int32} {v_table_rowCount : Int32} {v_table_columnsOf : (Nat → Int32)} {v_table_colours : (Nat → Int32)} {v_targets : (Nat → Int32)} {out : Int32 × (Nat → Int32)} (C0 : Cx RX3 cX3_findRowImages (some .boolean) 4 wsX3_findRowImages p s m args meth c A) (hK : va_K (dC, dI) vwCl (tysG cB cI cJ cZ) s)  : g_X3_findRowImages_0 p l e s m args below meth c A dC dI cB cI cJ cZ a_this a_table a_table_columnsOf a_table_colours a_targets a_rowImages a_classOf a_table_due a_table_rowsOf a_table_clashesOf v_count v_table_columnCount v_table_neededCount v_table_rowCount v_table_columnsOf v_table_colours v_targets out (f_X3_findRowImages v_table_columnCount v_table_rowCount v_table_columnsOf v_table_colours v_targets ) := by
  obtain ⟨hx, hb, hr, hml, hown, hts, hlocks, hA⟩ := id C0
  intro v_rowImages x1 hf H locs hP hD hS ls hl
  replace hf : ((f_X3_findRowImages_2 v_table_columnCount v_table_rowCount v_table_columnsOf v_table_colours v_targets 1000000 v_rowImages x1 (0 : Int32)) : Option (Int32 × (Nat → Int32))) = some out := hf
  refine lv_iconst (v := 0) hx hb dX3_findRowImages_0 (by decide) ?_
  refine lv_istore_n (lv' := [(2, .int (0 : Int32)), (0, .ref a_this), (1, .int x1)]) hx hb dX3_findRowImages_1 rfl hl (by decide) rfl (fun ls hl => ?_)
  exact w_X3_findRowImages_2 C0 hK 1000000 v_rowImages x1 (0 : Int32) hf _ _ hP hD hS ls (lv_sub hl [1, 2, 0] rfl)
theorem nd_X3_findRowImages : yX3_findRowImages.cls ≠ "java/lang/invoke/MethodHandle" ∧ yX3_findRowImages.cls ≠ "java/lang/invoke/VarHandle" ∧ (parseMethodDescriptor yX3_findRowImages.desc).map (fun d => d.parameters.length) = some 1 := by decide +kernel
set_option maxHeartbeats 4000000 in
set_option maxRecDepth 100000 in
theorem c_X3_findRowImages (l : Launch) (dC : Nat → ClassId) (dI : Nat → Nat → Nat) (cB cI cJ cZ : ClassId) (a_this a_table a_table_columnsOf a_table_colours a_targets a_rowImages a_classOf a_table_due a_table_rowsOf a_table_clashesOf : Nat) (sz : Nat) (v_count : Int32) (v_table_columnCount : Int32) (v_table_neededCount : Int32) (v_table_rowCount : Int32) (v_table_columnsOf : (Nat → Int32)) (v_table_colours : (Nat → Int32)) (v_targets : (Nat → Int32)) (v_rowImages : (Nat → Int32)) (x1 : Int32) (out : Int32 × (Nat → Int32)) (hf : f_X3_findRowImages v_table_columnCount v_table_rowCount v_table_columnsOf v_table_colours v_targets v_rowImages x1 = some out) : Met l yX3_findRowImages wsX3_findRowImages rm_X3_findRowImages (va_Pc [.ref a_this, .int x1] (fun U => U.heap.size = sz ∧ va_P (dC, dI) vwCl (ws_X3_findRowImages cB cI cJ cZ a_this a_table a_table_columnsOf a_table_colours a_targets a_rowImages a_classOf a_table_due a_table_rowsOf a_table_clashesOf v_count v_table_columnCount v_table_neededCount v_table_rowCount v_table_columnsOf v_table_colours v_targets v_rowImages) U.heap ∧ va_K (dC, dI) vwCl (tysG cB cI cJ cZ) U ∧ va_D (fun _ => True) (ws_X3_findRowImages cB cI cJ cZ a_this a_table a_table_columnsOf a_table_colours a_targets a_rowImages a_classOf a_table_due a_table_rowsOf a_table_clashesOf v_count v_table_columnCount v_table_neededCount v_table_rowCount v_table_columnsOf v_table_colours v_targets v_rowImages))) (qc_X3_findRowImages (va_A (ws_X3_findRowImages cB cI cJ cZ a_this a_table a_table_columnsOf a_table_colours a_targets a_rowImages a_classOf a_table_due a_table_rowsOf a_table_clashesOf v_count v_table_columnCount v_table_neededCount v_table_rowCount v_table_columnsOf v_table_colours v_targets v_rowImages) sz) dC dI cB cI cJ cZ a_this a_table a_table_columnsOf a_table_colours a_targets a_rowImages a_classOf a_table_due a_table_rowsOf a_table_clashesOf v_count v_table_columnCount v_table_neededCount v_table_rowCount v_table_columnsOf v_table_colours v_targets out) 0 0 (va_A (ws_X3_findRowImages cB cI cJ cZ a_this a_table a_table_columnsOf a_table_colours a_targets a_rowImages a_classOf a_table_due a_table_rowsOf a_table_clashesOf v_count v_table_columnCount v_table_neededCount v_table_rowCount v_table_columnsOf v_table_colours v_targets v_rowImages) sz) := by
  refine Met.ofW (cc := cX3_findRowImages) (maxL := 4) (ret := (some .boolean)) (by decide) rfl ?_
  intro p e s m args below meth c s₁ B hml hv
  obtain ⟨rfl, hsz, hP, hK, hD0⟩ := hv
  subst hsz
  have hD := hD0.self (sz := s.heap.size)
  generalize hAe : va_A (ws_X3_findRowImages cB cI cJ cZ a_this a_table a_table_columnsOf a_table_colours a_targets a_rowImages a_classOf a_table_due a_table_rowsOf a_table_clashesOf v_count v_table_columnCount v_table_neededCount v_table_rowCount v_table_columnsOf v_table_colours v_targets v_rowImages) s.heap.size = A at hD ⊢
  have hA : ∀ q : Nat, s.heap.size ≤ q → A q := fun q h => by rw [← hAe]; exact Or.inr h
  have hl := lv_entry ([.ref a_this, .int x1]) (n := 4) (Nat.le_of_ble_eq_true rfl)
  rw [lg_entry_eq]
  generalize (lg_sl ([.ref a_this, .int x1]) ++ List.replicate (4 - (lg_sl ([.ref a_this, .int x1])).length) Slot.unset).toArray = ls at hl ⊢
  have hl : lv_has ls 4 [(0, .ref a_this), (1, .int x1)] := hl
  exact w_X3_findRowImages_0 ⟨B.exec, B.bytes, B.returns, hml, findClass_of_methodNamed B.named, atoms_spec (ws := wsX3_findRowImages) B.pre, B.notSynchronized, hA⟩ hK v_rowImages x1 hf _ _ hP hD va_S.rf ls (lv_sub hl [0, 1] rfl)
-- X3.keepTable()Z: 20 instructions
theorem in_X3_keepTable_X3 : ∀ w ∈ wsX30, w ∈ wsX3_keepTable := by decide +kernel
abbrev ws_X3_keepTable (cB cI cJ cZ : ClassId) (a_this a_table a_table_due a_table_columnsOf a_table_colours a_targets a_rowImages a_classOf a_table_rowsOf a_table_clashesOf : Nat) (v_count : Int32) (v_table_columnCount : Int32) (v_table_neededCount : Int32) (v_table_rowCount : Int32) (v_table_due : (Nat → Int32)) (v_table_columnsOf : (Nat → Int32)) (v_table_colours : (Nat → Int32)) (v_targets : (Nat → Int32)) (v_rowImages : (Nat → Int32)) : va_W := [(a_this, .inr (4, [.ref a_table, .ref a_targets, .ref a_rowImages, .ref a_classOf, .int v_count])), (a_table, .inr (3, [.int v_table_columnCount, .int v_table_neededCount, .ref a_table_due, .ref a_table_columnsOf, .ref a_table_colours, .ref a_table_rowsOf, .ref a_table_clashesOf, .int v_table_rowCount])), (a_table_due, .inl (cI, 24, .inl v_table_due)), (a_table_columnsOf, .inl (cI, 60, .inl v_table_columnsOf)), (a_table_colours, .inl (cB, 1440, .inl v_table_colours)), (a_targets, .inl (cI, 192, .inl v_targets)), (a_rowImages, .inl (cI, 480, .inl v_rowImages))]
abbrev rm_X3_keepTable : Room := { frames := 3, cells := 0, slots := 0, locals := 74 }
theorem lk_X3_keepTable_f25 : Cond.fieldLink RX3 25 "LinkedCovers$Turns" "count" "I" ∈ wsX3_keepTable := by decide +kernel
def f_X3_keepTable_26 (v_count : Int32) (v_table_columnCount : Int32) (v_table_rowCount : Int32) (v_table_due : (Nat → Int32)) (v_table_columnsOf : (Nat → Int32)) (v_table_colours : (Nat → Int32)) (v_targets : (Nat → Int32))  (v_rowImages : (Nat → Int32)) : Option (Int32 × (Nat → Int32)) :=
  some (((0 : Int32), v_rowImages))
def f_X3_keepTable_2 (v_count : Int32) (v_table_columnCount : Int32) (v_table_rowCount : Int32) (v_table_due : (Nat → Int32)) (v_table_columnsOf : (Nat → Int32)) (v_table_colours : (Nat → Int32)) (v_targets : (Nat → Int32))  : Nat → (Nat → Int32) → Int32 → Option (Int32 × (Nat → Int32))
  | 0 => fun _ _ => none
  | n + 1 => fun v_rowImages x1 => if v_count ≤ x1 then
  (some (((1 : Int32), v_rowImages)))
  else
  ((f_X3_keepsColumns v_table_columnCount v_table_due v_targets x1).bind (fun o_2 =>
  if o_2.1 = 0 then
  (f_X3_keepTable_26 v_count v_table_columnCount v_table_rowCount v_table_due v_table_columnsOf v_table_colours v_targets v_rowImages)
  else
  ((f_X3_findRowImages v_table_columnCount v_table_rowCount v_table_columnsOf v_table_colours v_targets v_rowImages x1).bind (fun o_4 =>
  if o_4.1 = 0 then
  (f_X3_keepTable_26 v_count v_table_columnCount v_table_rowCount v_table_due v_table_columnsOf v_table_colours v_targets o_4.2)
  else
  (f_X3_keepTable_2 v_count v_table_columnCount v_table_rowCount v_table_due v_table_columnsOf v_table_colours v_targets n o_4.2 (x1 + 1))))))
def f_X3_keepTable (v_count : Int32) (v_table_columnCount : Int32) (v_table_rowCount : Int32) (v_table_due : (Nat → Int32)) (v_table_columnsOf : (Nat → Int32)) (v_table_colours : (Nat → Int32)) (v_targets : (Nat → Int32))  (v_rowImages : (Nat → Int32)) : Option (Int32 × (Nat → Int32)) :=
  f_X3_keepTable_2 v_count v_table_columnCount v_table_rowCount v_table_due v_table_columnsOf v_table_colours v_targets 1000000 v_rowImages (0 : Int32)
abbrev qc_X3_keepTable (A : Nat → Prop) (dC : Nat → ClassId) (dI : Nat → Nat → Nat) (cB cI cJ cZ : ClassId) (a_this a_table a_table_due a_table_columnsOf a_table_colours a_targets a_rowImages a_classOf a_table_rowsOf a_table_clashesOf : Nat) (v_count : Int32) (v_table_columnCount : Int32) (v_table_neededCount : Int32) (v_table_rowCount : Int32) (v_table_due : (Nat → Int32)) (v_table_columnsOf : (Nat → Int32)) (v_table_colours : (Nat → Int32)) (v_targets : (Nat → Int32)) (out : Int32 × (Nat → Int32)) : Array Value → State → Outcome → State → Prop := va_Qi (fun (r : Int32) (u : (Nat → Int32)) => r = out.1 ∧ u = out.2) (fun (u : (Nat → Int32)) (t : State) => va_P (dC, dI) vwCl (ws_X3_keepTable cB cI cJ cZ a_this a_table a_table_due a_table_columnsOf a_table_colours a_targets a_rowImages a_classOf a_table_rowsOf a_table_clashesOf v_count v_table_columnCount v_table_neededCount v_table_rowCount v_table_due v_table_columnsOf v_table_colours v_targets u) t.heap ∧ va_K (dC, dI) vwCl (tysG cB cI cJ cZ) t ∧ va_D A (ws_X3_keepTable cB cI cJ cZ a_this a_table a_table_due a_table_columnsOf a_table_colours a_targets a_rowImages a_classOf a_table_rowsOf a_table_clashesOf v_count v_table_columnCount v_table_neededCount v_table_rowCount v_table_due v_table_columnsOf v_table_colours v_targets u)) A
abbrev g_X3_keepTable_26 (p : Program) (l : Launch) (e : Env) (s : State) (m : MethodId) (args : Array Value) (below : List Frame) (meth : Method) (c : Code) (A : Nat → Prop) (dC : Nat → ClassId) (dI : Nat → Nat → Nat) (cB cI cJ cZ : ClassId) (a_this a_table a_table_due a_table_columnsOf a_table_colours a_targets a_rowImages a_classOf a_table_rowsOf a_table_clashesOf : Nat) (v_count : Int32) (v_table_columnCount : Int32) (v_table_neededCount : Int32) (v_table_rowCount : Int32) (v_table_due : (Nat → Int32)) (v_table_columnsOf : (Nat → Int32)) (v_table_colours : (Nat → Int32)) (v_targets : (Nat → Int32)) (out : Int32 × (Nat → Int32)) (k : (Nat → Int32) → Option (Int32 × (Nat → Int32))) : Prop := ∀ (v_rowImages : (Nat → Int32)), k v_rowImages = some out → ∀ (H : Heap) (locs : List Loc), va_P (dC, dI) vwCl (ws_X3_keepTable cB cI cJ cZ a_this a_table a_table_due a_table_columnsOf a_table_colours a_targets a_rowImages a_classOf a_table_rowsOf a_table_clashesOf v_count v_table_columnCount v_table_neededCount v_table_rowCount v_table_due v_table_columnsOf v_table_colours v_targets v_rowImages) H → va_D A (ws_X3_keepTable cB cI cJ cZ a_this a_table a_table_due a_table_columnsOf a_table_colours a_targets a_rowImages a_classOf a_table_rowsOf a_table_clashesOf v_count v_table_columnCount v_table_neededCount v_table_rowCount v_table_due v_table_columnsOf v_table_colours v_targets v_rowImages) → va_S A s.heap H locs → ∀ (ls : Array Slot), lv_has ls 2 [] → W p l e (headSpec wsX3_keepTable rm_X3_keepTable).room s m args below meth c H locs 0 0 (MQ below (qc_X3_keepTable A dC dI cB cI cJ cZ a_this a_table a_table_due a_table_columnsOf a_table_colours a_targets a_rowImages a_classOf a_table_rowsOf a_table_clashesOf v_count v_table_columnCount v_table_neededCount v_table_rowCount v_table_due v_table_columnsOf v_table_colours v_targets out) args s 0 0 A) (F0 m 26 ls [])
abbrev g_X3_keepTable_2 (p : Program) (l : Launch) (e : Env) (s : State) (m : MethodId) (args : Array Value) (below : List Frame) (meth : Method) (c : Code) (A : Nat → Prop) (dC : Nat → ClassId) (dI : Nat → Nat → Nat) (cB cI cJ cZ : ClassId) (a_this a_table a_table_due a_table_columnsOf a_table_colours a_targets a_rowImages a_classOf a_table_rowsOf a_table_clashesOf : Nat) (v_count : Int32) (v_table_columnCount : Int32) (v_table_neededCount : Int32) (v_table_rowCount : Int32) (v_table_due : (Nat → Int32)) (v_table_columnsOf : (Nat → Int32)) (v_table_colours : (Nat → Int32)) (v_targets : (Nat → Int32)) (out : Int32 × (Nat → Int32)) (k : (Nat → Int32) → Int32 → Option (Int32 × (Nat → Int32))) : Prop := ∀ (v_rowImages : (Nat → Int32)) (x1 : Int32), k v_rowImages x1 = some out → ∀ (H : Heap) (locs : List Loc), va_P (dC, dI) vwCl (ws_X3_keepTable cB cI cJ cZ a_this a_table a_table_due a_table_columnsOf a_table_colours a_targets a_rowImages a_classOf a_table_rowsOf a_table_clashesOf v_count v_table_columnCount v_table_neededCount v_table_rowCount v_table_due v_table_columnsOf v_table_colours v_targets v_rowImages) H → va_D A (ws_X3_keepTable cB cI cJ cZ a_this a_table a_table_due a_table_columnsOf a_table_colours a_targets a_rowImages a_classOf a_table_rowsOf a_table_clashesOf v_count v_table_columnCount v_table_neededCount v_table_rowCount v_table_due v_table_columnsOf v_table_colours v_targets v_rowImages) → va_S A s.heap H locs → ∀ (ls : Array Slot), lv_has ls 2 [(0, .ref a_this), (1, .int x1)] → W p l e (headSpec wsX3_keepTable rm_X3_keepTable).room s m args below meth c H locs 0 0 (MQ below (qc_X3_keepTable A dC dI cB cI cJ cZ a_this a_table a_table_due a_table_columnsOf a_table_colours a_targets a_rowImages a_classOf a_table_rowsOf a_table_clashesOf v_count v_table_columnCount v_table_neededCount v_table_rowCount v_table_due v_table_columnsOf v_table_colours v_targets out) args s 0 0 A) (F0 m 2 ls [])
abbrev g_X3_keepTable_0 (p : Program) (l : Launch) (e : Env) (s : State) (m : MethodId) (args : Array Value) (below : List Frame) (meth : Method) (c : Code) (A : Nat → Prop) (dC : Nat → ClassId) (dI : Nat → Nat → Nat) (cB cI cJ cZ : ClassId) (a_this a_table a_table_due a_table_columnsOf a_table_colours a_targets a_rowImages a_classOf a_table_rowsOf a_table_clashesOf : Nat) (v_count : Int32) (v_table_columnCount : Int32) (v_table_neededCount : Int32) (v_table_rowCount : Int32) (v_table_due : (Nat → Int32)) (v_table_columnsOf : (Nat → Int32)) (v_table_colours : (Nat → Int32)) (v_targets : (Nat → Int32)) (out : Int32 × (Nat → Int32)) (k : (Nat → Int32) → Option (Int32 × (Nat → Int32))) : Prop := ∀ (v_rowImages : (Nat → Int32)), k v_rowImages = some out → ∀ (H : Heap) (locs : List Loc), va_P (dC, dI) vwCl (ws_X3_keepTable cB cI cJ cZ a_this a_table a_table_due a_table_columnsOf a_table_colours a_targets a_rowImages a_classOf a_table_rowsOf a_table_clashesOf v_count v_table_columnCount v_table_neededCount v_table_rowCount v_table_due v_table_columnsOf v_table_colours v_targets v_rowImages) H → va_D A (ws_X3_keepTable cB cI cJ cZ a_this a_table a_table_due a_table_columnsOf a_table_colours a_targets a_rowImages a_classOf a_table_rowsOf a_table_clashesOf v_count v_table_columnCount v_table_neededCount v_table_rowCount v_table_due v_table_columnsOf v_table_colours v_targets v_rowImages) → va_S A s.heap H locs → ∀ (ls : Array Slot), lv_has ls 2 [(0, .ref a_this)] → W p l e (headSpec wsX3_keepTable rm_X3_keepTable).room s m args below meth c H locs 0 0 (MQ below (qc_X3_keepTable A dC dI cB cI cJ cZ a_this a_table a_table_due a_table_columnsOf a_table_colours a_targets a_rowImages a_classOf a_table_rowsOf a_table_clashesOf v_count v_table_columnCount v_table_neededCount v_table_rowCount v_table_due v_table_columnsOf v_table_colours v_targets out) args s 0 0 A) (F0 m 0 ls [])
set_option maxHeartbeats 4000000 in
set_option maxRecDepth 100000 in
theorem w_X3_keepTable_26 {p : Program} {l : Launch} {e : Env} {s : State} {m : MethodId} {args : Array Value} {below : List Frame} {meth : Method} {c : Code} {A : Nat → Prop} {dC : Nat → ClassId} {dI : Nat → Nat → Nat} {cB cI cJ cZ : ClassId} {a_this a_table a_table_due a_table_columnsOf a_table_colours a_targets a_rowImages a_classOf a_table_rowsOf a_table_clashesOf : Nat} {v_count : Int32} {v_table_columnCount : Int32} {v_table_neededCount : Int32} {v_table_rowCount : Int32} {v_table_due : (Nat → Int32)} {v_table_columnsOf : (Nat → Int32)} {v_table_colours : (Nat → Int32)} {v_targets : (Nat → Int32)} {out : Int32 × (Nat → Int32)} (C0 : Cx RX3 cX3_keepTable (some .boolean) 2 wsX3_keepTable p s m args meth c A) (hK : va_K (dC, dI) vwCl (tysG cB cI cJ cZ) s)  : g_X3_keepTable_26 p l e s m args below meth c A dC dI cB cI cJ cZ a_this a_table a_table_due a_table_columnsOf a_table_colours a_targets a_rowImages a_classOf a_table_rowsOf a_table_clashesOf v_count v_table_columnCount v_table_neededCount v_table_rowCount v_table_due v_table_columnsOf v_table_colours v_targets out (f_X3_keepTable_26 v_count v_table_columnCount v_table_rowCount v_table_due v_table_columnsOf v_table_colours v_targets ) := by
  obtain ⟨hx, hb, hr, hml, hown, hts, hlocks, hA⟩ := id C0
  intro v_rowImages hf H locs hP hD hS ls hl
  replace hf : ((some (((0 : Int32), v_rowImages))) : Option (Int32 × (Nat → Int32))) = some out := hf
  refine lv_iconst (v := 0) hx hb dX3_keepTable_26 (by decide) ?_
  have h9 := Option.some.inj hf
  have h8 := congrArg Prod.fst h9
  have h7 := congrArg Prod.snd h9
  exact W.zret (v := (0 : Int32)) hx hb hr rfl (fun t ht hW => ⟨⟨(0 : Int32), v_rowImages, rfl, ⟨h8, h7⟩, by rw [ht]; exact hP, va_K.moved hW.alike hK, hD⟩, hS.F ht⟩) hS.2.2 dX3_keepTable_27
set_option maxHeartbeats 4000000 in
set_option maxRecDepth 100000 in
theorem w_X3_keepTable_2 {p : Program} {l : Launch} {e : Env} {s : State} {m : MethodId} {args : Array Value} {below : List Frame} {meth : Method} {c : Code} {A : Nat → Prop} {dC : Nat → ClassId} {dI : Nat → Nat → Nat} {cB cI cJ cZ : ClassId} {a_this a_table a_table_due a_table_columnsOf a_table_colours a_targets a_rowImages a_classOf a_table_rowsOf a_table_clashesOf : Nat} {v_count : Int32} {v_table_columnCount : Int32} {v_table_neededCount : Int32} {v_table_rowCount : Int32} {v_table_due : (Nat → Int32)} {v_table_columnsOf : (Nat → Int32)} {v_table_colours : (Nat → Int32)} {v_targets : (Nat → Int32)} {out : Int32 × (Nat → Int32)} (C0 : Cx RX3 cX3_keepTable (some .boolean) 2 wsX3_keepTable p s m args meth c A) (hK : va_K (dC, dI) vwCl (tysG cB cI cJ cZ) s)  : ∀ n : Nat, g_X3_keepTable_2 p l e s m args below meth c A dC dI cB cI cJ cZ a_this a_table a_table_due a_table_columnsOf a_table_colours a_targets a_rowImages a_classOf a_table_rowsOf a_table_clashesOf v_count v_table_columnCount v_table_neededCount v_table_rowCount v_table_due v_table_columnsOf v_table_colours v_targets out (f_X3_keepTable_2 v_count v_table_columnCount v_table_rowCount v_table_due v_table_columnsOf v_table_colours v_targets  n) := by
  obtain ⟨hx, hb, hr, hml, hown, hts, hlocks, hA⟩ := id C0
  intro n
  induction n with
  | zero =>
    intro v_rowImages x1 hf H locs hP hD hS ls hl
    exact nomatch (show (none : Option (Int32 × (Nat → Int32))) = some out from hf)
  | succ n ih =>
    intro v_rowImages x1 hf H locs hP hD hS ls hl
    replace hf : ((if v_count ≤ x1 then
  (some (((1 : Int32), v_rowImages)))
  else
  ((f_X3_keepsColumns v_table_columnCount v_table_due v_targets x1).bind (fun o_2 =>
  if o_2.1 = 0 then
  (f_X3_keepTable_26 v_count v_table_columnCount v_table_rowCount v_table_due v_table_columnsOf v_table_colours v_targets v_rowImages)
  else
  ((f_X3_findRowImages v_table_columnCount v_table_rowCount v_table_columnsOf v_table_colours v_targets v_rowImages x1).bind (fun o_4 =>
  if o_4.1 = 0 then
  (f_X3_keepTable_26 v_count v_table_columnCount v_table_rowCount v_table_due v_table_columnsOf v_table_colours v_targets o_4.2)
  else
  (f_X3_keepTable_2 v_count v_table_columnCount v_table_rowCount v_table_due v_table_columnsOf v_table_colours v_targets n o_4.2 (x1 + 1))))))) : Option (Int32 × (Nat → Int32))) = some out := hf
    refine lv_iload_n hx hb dX3_keepTable_2 rfl (lv_at hl 1 rfl) ?_
    refine lv_aload_n hx hb dX3_keepTable_3 rfl (lv_at hl 0 rfl) ?_
    refine va_get (D := (dC, dI)) (ci := 4) (v := .int v_count) (C := RX3) (T := TX3) (N := 5) hx hb hts in_X3_keepTable_X3 hown hK hP 0 rfl rfl 4 (by decide) (hts (.fieldLink RX3 25 "LinkedCovers$Turns" "count" "I") lk_X3_keepTable_f25) (fun _ h9 => h9) rfl dX3_keepTable_4 ?_
    refine lv_icmp_ge (tgt := 34) hx hb dX3_keepTable_7 (by decide) (fun c_1 => ?_) (fun c_1 => ?_)
    · replace hf := (if_pos c_1).symm.trans hf
      refine lv_iconst (v := 1) hx hb dX3_keepTable_34 (by decide) ?_
      have h9 := Option.some.inj hf
      have h8 := congrArg Prod.fst h9
      have h7 := congrArg Prod.snd h9
      exact W.zret (v := (1 : Int32)) hx hb hr rfl (fun t ht hW => ⟨⟨(1 : Int32), v_rowImages, rfl, ⟨h8, h7⟩, by rw [ht]; exact hP, va_K.moved hW.alike hK, hD⟩, hS.F ht⟩) hS.2.2 dX3_keepTable_35
    · replace hf := (if_neg c_1).symm.trans hf
      refine lv_aload_n hx hb dX3_keepTable_10 rfl (lv_at hl 0 rfl) ?_
      refine lv_iload_n hx hb dX3_keepTable_11 rfl (lv_at hl 1 rfl) ?_
      obtain ⟨o_2, ho_2, hf⟩ := gd_bd hf
      have hPc := hP.sub (ws' := ws_X3_keepsColumns cB cI cJ cZ a_this a_table a_table_due a_targets a_rowImages a_classOf a_table_columnsOf a_table_colours a_table_rowsOf a_table_clashesOf v_count v_table_columnCount v_table_neededCount v_table_rowCount v_table_due v_targets) [0, 1, 2, 5] rfl
      have hDc := hD.sub (ws' := ws_X3_keepsColumns cB cI cJ cZ a_this a_table a_table_due a_targets a_rowImages a_classOf a_table_columnsOf a_table_colours a_table_rowsOf a_table_clashesOf v_count v_table_columnCount v_table_neededCount v_table_rowCount v_table_due v_targets) [0, 1, 2, 5] (by decide) rfl
      have hFc := va_free (wc := ws_X3_keepsColumns cB cI cJ cZ a_this a_table a_table_due a_targets a_rowImages a_classOf a_table_columnsOf a_table_colours a_table_rowsOf a_table_clashesOf v_count v_table_columnCount v_table_neededCount v_table_rowCount v_table_due v_targets) hD hS hA [0, 1, 2, 5] rfl
      refine va_calli (va_runV (As := [.int x1]) (rest := []) ⟨hx, hb, hml, hown, hts⟩ (c_X3_keepsColumns l dC dI cB cI cJ cZ a_this a_table a_table_due a_targets a_rowImages a_classOf a_table_columnsOf a_table_colours a_table_rowsOf a_table_clashesOf H.size v_count v_table_columnCount v_table_neededCount v_table_rowCount v_table_due v_targets x1 o_2 ho_2) (cwV 1 hts gX3_keepTable_X3_keepsColumns rfl rfl rfl ⟨rfl, nd_X3_keepsColumns⟩ ⟨Nat.le_of_ble_eq_true rfl, Nat.le_of_ble_eq_true rfl⟩) ⟨fun a U g mk q => by obtain ⟨q0, q1, qP, qK, qD⟩ := q; exact ⟨q0, q1, qP, va_K.moved (u := U) (U := U.calling g mk a) (Vm.Alike.refl U.vm) qK, qD⟩, va_recv hK hPc (ci := 4) (q0 := 0) rfl rfl, fun U hU hW => ⟨rfl, by rw [hU], by rw [hU]; exact hPc, va_K.moved hW.alike hK, hDc.weaken (fun _ _ _ _ => trivial)⟩⟩ rfl rfl hl.1 rfl (lv_room (Nat.le_of_ble_eq_true rfl)) dX3_keepTable_12 ⟨Nat.le_of_ble_eq_true rfl, Nat.le_of_ble_eq_true rfl⟩) hS (fun q _ h => hFc q h) hFc (fun r_2 u_2 t H1 locs ht hvm hw hB hz1 hk1 hS => ?_)
      obtain ⟨rfl, rfl⟩ := hw
      obtain ⟨hP1, hK1, hD1⟩ := hB
      rw [ht] at hP1
      obtain ⟨hP, hD⟩ := va_join (wr := [(a_table_columnsOf, .inl (cI, 60, .inl v_table_columnsOf)), (a_table_colours, .inl (cB, 1440, .inl v_table_colours)), (a_rowImages, .inl (cI, 480, .inl v_rowImages))]) (w1 := ws_X3_keepsColumns cB cI cJ cZ a_this a_table a_table_due a_targets a_rowImages a_classOf a_table_columnsOf a_table_colours a_table_rowsOf a_table_clashesOf v_count v_table_columnCount v_table_neededCount v_table_rowCount v_table_due v_targets) hP hD [0, 1, 2, 5] [3, 4, 6] rfl rfl (by decide) (by decide) hk1 hFc hP1 hD1
      generalize H1 = H at hP hS ⊢
      have hP : va_P (dC, dI) vwCl (ws_X3_keepTable cB cI cJ cZ a_this a_table a_table_due a_table_columnsOf a_table_colours a_targets a_rowImages a_classOf a_table_rowsOf a_table_clashesOf v_count v_table_columnCount v_table_neededCount v_table_rowCount v_table_due v_table_columnsOf v_table_colours v_targets v_rowImages) H := hP.sub [3, 4, 5, 0, 1, 6, 2] rfl
      have hD : va_D A (ws_X3_keepTable cB cI cJ cZ a_this a_table a_table_due a_table_columnsOf a_table_colours a_targets a_rowImages a_classOf a_table_rowsOf a_table_clashesOf v_count v_table_columnCount v_table_neededCount v_table_rowCount v_table_due v_table_columnsOf v_table_colours v_targets v_rowImages) := hD.sub [3, 4, 5, 0, 1, 6, 2] (by decide) rfl
      refine lv_if_eq (tgt := 26) hx hb dX3_keepTable_15 (by decide) (fun c_3 => ?_) (fun c_3 => ?_)
      · replace hf := (if_pos c_3).symm.trans hf
        exact w_X3_keepTable_26 C0 hK v_rowImages hf _ _ hP hD hS ls (lv_sub hl [] rfl)
      · replace hf := (if_neg c_3).symm.trans hf
        refine lv_aload_n hx hb dX3_keepTable_18 rfl (lv_at hl 0 rfl) ?_
        refine lv_iload_n hx hb dX3_keepTable_19 rfl (lv_at hl 1 rfl) ?_
        obtain ⟨o_4, ho_4, hf⟩ := gd_bd hf
        have hPc := hP.sub (ws' := ws_X3_findRowImages cB cI cJ cZ a_this a_table a_table_columnsOf a_table_colours a_targets a_rowImages a_classOf a_table_due a_table_rowsOf a_table_clashesOf v_count v_table_columnCount v_table_neededCount v_table_rowCount v_table_columnsOf v_table_colours v_targets v_rowImages) [0, 1, 3, 4, 5, 6] rfl
        have hDc := hD.sub (ws' := ws_X3_findRowImages cB cI cJ cZ a_this a_table a_table_columnsOf a_table_colours a_targets a_rowImages a_classOf a_table_due a_table_rowsOf a_table_clashesOf v_count v_table_columnCount v_table_neededCount v_table_rowCount v_table_columnsOf v_table_colours v_targets v_rowImages) [0, 1, 3, 4, 5, 6] (by decide) rfl
        have hFc := va_free (wc := ws_X3_findRowImages cB cI cJ cZ a_this a_table a_table_columnsOf a_table_colours a_targets a_rowImages a_classOf a_table_due a_table_rowsOf a_table_clashesOf v_count v_table_columnCount v_table_neededCount v_table_rowCount v_table_columnsOf v_table_colours v_targets v_rowImages) hD hS hA [0, 1, 3, 4, 5, 6] rfl
        refine va_calli (va_runV (As := [.int x1]) (rest := []) ⟨hx, hb, hml, hown, hts⟩ (c_X3_findRowImages l dC dI cB cI cJ cZ a_this a_table a_table_columnsOf a_table_colours a_targets a_rowImages a_classOf a_table_due a_table_rowsOf a_table_clashesOf H.size v_count v_table_columnCount v_table_neededCount v_table_rowCount v_table_columnsOf v_table_colours v_targets v_rowImages x1 o_4 ho_4) (cwV 1 hts gX3_keepTable_X3_findRowImages rfl rfl rfl ⟨rfl, nd_X3_findRowImages⟩ ⟨Nat.le_of_ble_eq_true rfl, Nat.le_of_ble_eq_true rfl⟩) ⟨fun a U g mk q => by obtain ⟨q0, q1, qP, qK, qD⟩ := q; exact ⟨q0, q1, qP, va_K.moved (u := U) (U := U.calling g mk a) (Vm.Alike.refl U.vm) qK, qD⟩, va_recv hK hPc (ci := 4) (q0 := 0) rfl rfl, fun U hU hW => ⟨rfl, by rw [hU], by rw [hU]; exact hPc, va_K.moved hW.alike hK, hDc.weaken (fun _ _ _ _ => trivial)⟩⟩ rfl rfl hl.1 rfl (lv_room (Nat.le_of_ble_eq_true rfl)) dX3_keepTable_20 ⟨Nat.le_of_ble_eq_true rfl, Nat.le_of_ble_eq_true rfl⟩) hS (fun q _ h => hFc q h) hFc (fun r_4 u_4 t H1 locs ht hvm hw hB hz1 hk1 hS => ?_)
        obtain ⟨rfl, rfl⟩ := hw
        obtain ⟨hP1, hK1, hD1⟩ := hB
        rw [ht] at hP1
        obtain ⟨hP, hD⟩ := va_join (wr := [(a_table_due, .inl (cI, 24, .inl v_table_due))]) (w1 := ws_X3_findRowImages cB cI cJ cZ a_this a_table a_table_columnsOf a_table_colours a_targets a_rowImages a_classOf a_table_due a_table_rowsOf a_table_clashesOf v_count v_table_columnCount v_table_neededCount v_table_rowCount v_table_columnsOf v_table_colours v_targets o_4.2) hP hD [0, 1, 3, 4, 5, 6] [2] rfl rfl (by decide) (by decide) hk1 hFc hP1 hD1
        generalize H1 = H at hP hS ⊢
        have hP : va_P (dC, dI) vwCl (ws_X3_keepTable cB cI cJ cZ a_this a_table a_table_due a_table_columnsOf a_table_colours a_targets a_rowImages a_classOf a_table_rowsOf a_table_clashesOf v_count v_table_columnCount v_table_neededCount v_table_rowCount v_table_due v_table_columnsOf v_table_colours v_targets o_4.2) H := hP.sub [1, 2, 0, 3, 4, 5, 6] rfl
        have hD : va_D A (ws_X3_keepTable cB cI cJ cZ a_this a_table a_table_due a_table_columnsOf a_table_colours a_targets a_rowImages a_classOf a_table_rowsOf a_table_clashesOf v_count v_table_columnCount v_table_neededCount v_table_rowCount v_table_due v_table_columnsOf v_table_colours v_targets o_4.2) := hD.sub [1, 2, 0, 3, 4, 5, 6] (by decide) rfl
        refine lv_if_ne (tgt := 28) hx hb dX3_keepTable_23 (by decide) (fun c_5 => ?_) (fun c_5 => ?_)
        · replace hf := (if_neg c_5).symm.trans hf
          refine lv_iinc (v := (x1 + 1)) (lv' := [(1, .int (x1 + 1)), (0, .ref a_this)]) hx hb dX3_keepTable_28 hl (k := 1) rfl rfl (by decide) rfl (fun ls hl => ?_)
          refine lv_goto (tgt := 2) hx hb dX3_keepTable_31 (by decide) ?_
          exact ih o_4.2 (x1 + 1) hf _ _ hP hD hS ls (lv_sub hl [1, 0] rfl)
        · replace hf := (if_pos c_5).symm.trans hf
          exact w_X3_keepTable_26 C0 hK o_4.2 hf _ _ hP hD hS ls (lv_sub hl [] rfl)
set_option maxHeartbeats 4000000 in
set_option maxRecDepth 100000 in
theorem w_X3_keepTable_0 {p : Program} {l : Launch} {e : Env} {s : State} {m : MethodId} {args : Array Value} {below : List Frame} {meth : Method} {c : Code} {A : Nat → Prop} {dC : Nat → ClassId} {dI : Nat → Nat → Nat} {cB cI cJ cZ : ClassId} {a_this a_table a_table_due a_table_columnsOf a_table_colours a_targets a_rowImages a_classOf a_table_rowsOf a_table_clashesOf : Nat} {v_count : Int32} {v_table_columnCount : Int32} {v_table_neededCount : Int32} {v_table_rowCount : Int32} {v_table_due : (Nat → Int32)} {v_table_columnsOf : (Nat → Int32)} {v_table_colours : (Nat → Int32)} {v_targets : (Nat → Int32)} {out : Int32 × (Nat → Int32)} (C0 : Cx RX3 cX3_keepTable (some .boolean) 2 wsX3_keepTable p s m args meth c A) (hK : va_K (dC, dI) vwCl (tysG cB cI cJ cZ) s)  : g_X3_keepTable_0 p l e s m args below meth c A dC dI cB cI cJ cZ a_this a_table a_table_due a_table_columnsOf a_table_colours a_targets a_rowImages a_classOf a_table_rowsOf a_table_clashesOf v_count v_table_columnCount v_table_neededCount v_table_rowCount v_table_due v_table_columnsOf v_table_colours v_targets out (f_X3_keepTable v_count v_table_columnCount v_table_rowCount v_table_due v_table_columnsOf v_table_colours v_targets ) := by
  obtain ⟨hx, hb, hr, hml, hown, hts, hlocks, hA⟩ := id C0
  intro v_rowImages hf H locs hP hD hS ls hl
  replace hf : ((f_X3_keepTable_2 v_count v_table_columnCount v_table_rowCount v_table_due v_table_columnsOf v_table_colours v_targets 1000000 v_rowImages (0 : Int32)) : Option (Int32 × (Nat → Int32))) = some out := hf
  refine lv_iconst (v := 0) hx hb dX3_keepTable_0 (by decide) ?_
  refine lv_istore_n (lv' := [(1, .int (0 : Int32)), (0, .ref a_this)]) hx hb dX3_keepTable_1 rfl hl (by decide) rfl (fun ls hl => ?_)
  exact w_X3_keepTable_2 C0 hK 1000000 v_rowImages (0 : Int32) hf _ _ hP hD hS ls (lv_sub hl [1, 0] rfl)
theorem nd_X3_keepTable : yX3_keepTable.cls ≠ "java/lang/invoke/MethodHandle" ∧ yX3_keepTable.cls ≠ "java/lang/invoke/VarHandle" ∧ (parseMethodDescriptor yX3_keepTable.desc).map (fun d => d.parameters.length) = some 0 := by decide +kernel
set_option maxHeartbeats 4000000 in
set_option maxRecDepth 100000 in
theorem c_X3_keepTable (l : Launch) (dC : Nat → ClassId) (dI : Nat → Nat → Nat) (cB cI cJ cZ : ClassId) (a_this a_table a_table_due a_table_columnsOf a_table_colours a_targets a_rowImages a_classOf a_table_rowsOf a_table_clashesOf : Nat) (sz : Nat) (v_count : Int32) (v_table_columnCount : Int32) (v_table_neededCount : Int32) (v_table_rowCount : Int32) (v_table_due : (Nat → Int32)) (v_table_columnsOf : (Nat → Int32)) (v_table_colours : (Nat → Int32)) (v_targets : (Nat → Int32)) (v_rowImages : (Nat → Int32))  (out : Int32 × (Nat → Int32)) (hf : f_X3_keepTable v_count v_table_columnCount v_table_rowCount v_table_due v_table_columnsOf v_table_colours v_targets v_rowImages = some out) : Met l yX3_keepTable wsX3_keepTable rm_X3_keepTable (va_Pc [.ref a_this] (fun U => U.heap.size = sz ∧ va_P (dC, dI) vwCl (ws_X3_keepTable cB cI cJ cZ a_this a_table a_table_due a_table_columnsOf a_table_colours a_targets a_rowImages a_classOf a_table_rowsOf a_table_clashesOf v_count v_table_columnCount v_table_neededCount v_table_rowCount v_table_due v_table_columnsOf v_table_colours v_targets v_rowImages) U.heap ∧ va_K (dC, dI) vwCl (tysG cB cI cJ cZ) U ∧ va_D (fun _ => True) (ws_X3_keepTable cB cI cJ cZ a_this a_table a_table_due a_table_columnsOf a_table_colours a_targets a_rowImages a_classOf a_table_rowsOf a_table_clashesOf v_count v_table_columnCount v_table_neededCount v_table_rowCount v_table_due v_table_columnsOf v_table_colours v_targets v_rowImages))) (qc_X3_keepTable (va_A (ws_X3_keepTable cB cI cJ cZ a_this a_table a_table_due a_table_columnsOf a_table_colours a_targets a_rowImages a_classOf a_table_rowsOf a_table_clashesOf v_count v_table_columnCount v_table_neededCount v_table_rowCount v_table_due v_table_columnsOf v_table_colours v_targets v_rowImages) sz) dC dI cB cI cJ cZ a_this a_table a_table_due a_table_columnsOf a_table_colours a_targets a_rowImages a_classOf a_table_rowsOf a_table_clashesOf v_count v_table_columnCount v_table_neededCount v_table_rowCount v_table_due v_table_columnsOf v_table_colours v_targets out) 0 0 (va_A (ws_X3_keepTable cB cI cJ cZ a_this a_table a_table_due a_table_columnsOf a_table_colours a_targets a_rowImages a_classOf a_table_rowsOf a_table_clashesOf v_count v_table_columnCount v_table_neededCount v_table_rowCount v_table_due v_table_columnsOf v_table_colours v_targets v_rowImages) sz) := by
  refine Met.ofW (cc := cX3_keepTable) (maxL := 2) (ret := (some .boolean)) (by decide) rfl ?_
  intro p e s m args below meth c s₁ B hml hv
  obtain ⟨rfl, hsz, hP, hK, hD0⟩ := hv
  subst hsz
  have hD := hD0.self (sz := s.heap.size)
  generalize hAe : va_A (ws_X3_keepTable cB cI cJ cZ a_this a_table a_table_due a_table_columnsOf a_table_colours a_targets a_rowImages a_classOf a_table_rowsOf a_table_clashesOf v_count v_table_columnCount v_table_neededCount v_table_rowCount v_table_due v_table_columnsOf v_table_colours v_targets v_rowImages) s.heap.size = A at hD ⊢
  have hA : ∀ q : Nat, s.heap.size ≤ q → A q := fun q h => by rw [← hAe]; exact Or.inr h
  have hl := lv_entry ([.ref a_this]) (n := 2) (Nat.le_of_ble_eq_true rfl)
  rw [lg_entry_eq]
  generalize (lg_sl ([.ref a_this]) ++ List.replicate (2 - (lg_sl ([.ref a_this])).length) Slot.unset).toArray = ls at hl ⊢
  have hl : lv_has ls 2 [(0, .ref a_this)] := hl
  exact w_X3_keepTable_0 ⟨B.exec, B.bytes, B.returns, hml, findClass_of_methodNamed B.named, atoms_spec (ws := wsX3_keepTable) B.pre, B.notSynchronized, hA⟩ hK v_rowImages hf _ _ hP hD va_S.rf ls (lv_sub hl [0] rfl)
