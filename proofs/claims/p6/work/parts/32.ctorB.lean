-- X1.<init>(LLinkedCovers$Table;)V: 26 instructions
theorem in_X1_init_X1 : ∀ w ∈ wsX10, w ∈ wsX1_init := by decide +kernel
abbrev ws_X1_init (cB cI cJ cZ : ClassId) (a_this a_chosen a_free a_untried a_uncovered a_kept a_p1 : Nat) (v_nodeCount : Int32) (v_found : Int32) (v_chosen : (Nat → Int64)) (v_free : (Nat → Int64)) (v_untried : (Nat → Int64)) (v_uncovered : (Nat → Int32)) (v_kept : (Nat → Int64)) : va_W := [(a_this, .inr (2, [.ref a_p1, .ref a_chosen, .ref a_free, .ref a_untried, .ref a_uncovered, .ref a_kept, .int v_nodeCount, .int v_found])), (a_chosen, .inl (cJ, 61, .inr (.inl v_chosen))), (a_free, .inl (cJ, 61, .inr (.inl v_free))), (a_untried, .inl (cJ, 61, .inr (.inl v_untried))), (a_uncovered, .inl (cI, 61, .inl v_uncovered)), (a_kept, .inl (cJ, 100, .inr (.inl v_kept)))]
abbrev rm_X1_init : Room := { frames := 1, cells := 5, slots := 344, locals := 12 }
theorem lk_X1_init_o3 : Cond.methodLink RX1 3 objectInit ∈ wsX1_init := by decide +kernel
theorem lk_X1_init_oi : Cond.instanceMethod objectInit ∈ wsX1_init := by decide +kernel
theorem lk_X1_init_oc : Cond.code objectInit ⟨#[0xb1]⟩ 1 none ∈ wsX1_init := by decide +kernel
theorem lk_X1_init_aJ : Cond.arrayClass .long ∈ wsX1_init := by decide +kernel
theorem lk_X1_init_f9 : Cond.fieldLink RX1 9 "LinkedCovers$Search" "chosen" "[J" ∈ wsX1_init := by decide +kernel
theorem lk_X1_init_f15 : Cond.fieldLink RX1 15 "LinkedCovers$Search" "free" "[J" ∈ wsX1_init := by decide +kernel
theorem lk_X1_init_f18 : Cond.fieldLink RX1 18 "LinkedCovers$Search" "untried" "[J" ∈ wsX1_init := by decide +kernel
theorem lk_X1_init_aI : Cond.arrayClass .int ∈ wsX1_init := by decide +kernel
theorem lk_X1_init_f21 : Cond.fieldLink RX1 21 "LinkedCovers$Search" "uncovered" "[I" ∈ wsX1_init := by decide +kernel
theorem lk_X1_init_f25 : Cond.fieldLink RX1 25 "LinkedCovers$Search" "kept" "[J" ∈ wsX1_init := by decide +kernel
theorem lk_X1_init_f28 : Cond.fieldLink RX1 28 "LinkedCovers$Search" "table" "LLinkedCovers$Table;" ∈ wsX1_init := by decide +kernel
def f_X1_init  : Option (Int32 × Int32 × (Nat → Int64) × (Nat → Int64) × (Nat → Int64) × (Nat → Int32) × (Nat → Int64)) :=
  some (0, 0, (fun _ => 0), (fun _ => 0), (fun _ => 0), (fun _ => 0), (fun _ => 0))
abbrev qc_X1_init (A : Nat → Prop) (dC : Nat → ClassId) (dI : Nat → Nat → Nat) (cB cI cJ cZ : ClassId) (a_this a_p1 : Nat)  (out : Int32 × Int32 × (Nat → Int64) × (Nat → Int64) × (Nat → Int64) × (Nat → Int32) × (Nat → Int64)) : Array Value → State → Outcome → State → Prop := va_Qv (fun u : Int32 × Int32 × (Nat → Int64) × (Nat → Int64) × (Nat → Int64) × (Nat → Int32) × (Nat → Int64) => u = out) (fun (u : Int32 × Int32 × (Nat → Int64) × (Nat → Int64) × (Nat → Int64) × (Nat → Int32) × (Nat → Int64)) (t : State) => ∃ (a_chosen a_free a_untried a_uncovered a_kept : Nat), va_P (dC, dI) vwCl (ws_X1_init cB cI cJ cZ a_this a_chosen a_free a_untried a_uncovered a_kept a_p1 u.1 u.2.1 u.2.2.1 u.2.2.2.1 u.2.2.2.2.1 u.2.2.2.2.2.1 u.2.2.2.2.2.2) t.heap ∧ va_K (dC, dI) vwCl (tysG cB cI cJ cZ) t ∧ va_D A (ws_X1_init cB cI cJ cZ a_this a_chosen a_free a_untried a_uncovered a_kept a_p1 u.1 u.2.1 u.2.2.1 u.2.2.2.1 u.2.2.2.2.1 u.2.2.2.2.2.1 u.2.2.2.2.2.2)) A
theorem nd_X1_init : yX1_init.cls ≠ "java/lang/invoke/MethodHandle" ∧ yX1_init.cls ≠ "java/lang/invoke/VarHandle" ∧ (parseMethodDescriptor yX1_init.desc).map (fun d => d.parameters.length) = some 1 := by decide +kernel
set_option maxHeartbeats 4000000 in
set_option maxRecDepth 100000 in
theorem c_X1_init (l : Launch) (dC : Nat → ClassId) (dI : Nat → Nat → Nat) (cB cI cJ cZ : ClassId) (a_this a_p1 : Nat) (sz : Nat)  (out : Int32 × Int32 × (Nat → Int64) × (Nat → Int64) × (Nat → Int64) × (Nat → Int32) × (Nat → Int64)) (hf : f_X1_init  = some out) : Met l yX1_init wsX1_init rm_X1_init (va_Pc [.ref a_this, .ref a_p1] (fun U => U.heap.size = sz ∧ va_P (dC, dI) vwCl [(a_this, .inr (2, [.null, .null, .null, .null, .null, .null, .int 0, .int 0]))] U.heap ∧ va_K (dC, dI) vwCl (tysG cB cI cJ cZ) U ∧ va_D (fun _ => True) [(a_this, .inr (2, [.null, .null, .null, .null, .null, .null, .int 0, .int 0]))])) (qc_X1_init (va_A [(a_this, .inr (2, [.null, .null, .null, .null, .null, .null, .int 0, .int 0]))] sz) dC dI cB cI cJ cZ a_this a_p1 out) 5 344 (va_A [(a_this, .inr (2, [.null, .null, .null, .null, .null, .null, .int 0, .int 0]))] sz) := by
  refine Met.ofW (cc := cX1_init) (maxL := 2) (ret := none) (by decide) rfl ?_
  intro p e s m args below meth c s₁ B hml hv
  obtain ⟨rfl, hsz, hP, hK, hD0⟩ := hv
  subst hsz
  have hD := hD0.self (sz := s.heap.size)
  generalize hAe : va_A [(a_this, .inr (2, [.null, .null, .null, .null, .null, .null, .int 0, .int 0]))] s.heap.size = A at hD ⊢
  have hA : ∀ q : Nat, s.heap.size ≤ q → A q := fun q h => by rw [← hAe]; exact Or.inr h
  have hl := lv_entry ([.ref a_this, .ref a_p1]) (n := 2) (Nat.le_of_ble_eq_true rfl)
  rw [lg_entry_eq]
  generalize (lg_sl ([.ref a_this, .ref a_p1]) ++ List.replicate (2 - (lg_sl ([.ref a_this, .ref a_p1])).length) Slot.unset).toArray = ls at hl ⊢
  have hl : lv_has ls 2 [(0, .ref a_this), (1, .ref a_p1)] := hl
  have hin : meth.name = "<init>" := (name_of_methodNamed B.named B.method).1
  have C0 : Cx RX1 cX1_init none 2 wsX1_init p s m _ meth c A := ⟨B.exec, B.bytes, B.returns, hml, findClass_of_methodNamed B.named, atoms_spec (ws := wsX1_init) B.pre, B.notSynchronized, hA⟩
  obtain ⟨hx, hb, hr, hml, hown, hts, hlocks, hA⟩ := id C0
  have hS : va_S A s.heap s.heap [] := va_S.rf
  replace hf : ((some (0, 0, (fun _ => 0), (fun _ => 0), (fun _ => 0), (fun _ => 0), (fun _ => 0))) : Option (Int32 × Int32 × (Nat → Int64) × (Nat → Int64) × (Nat → Int64) × (Nat → Int32) × (Nat → Int64))) = some out := hf
  refine lv_aload_n hx hb dX1_init_0 rfl (lv_at hl 0 rfl) ?_
  refine W.objInit hx hb hown (hts (.methodLink RX1 3 objectInit) lk_X1_init_o3) (hts (.instanceMethod objectInit) lk_X1_init_oi) (hts (.code objectInit ⟨#[0xb1]⟩ 1 none) lk_X1_init_oc) rfl (by rw [hml]; exact hl.1) rfl dX1_init_1 (Nat.le_of_ble_eq_true rfl) (Nat.le_of_ble_eq_true rfl) ?_
  refine W.eq (g2 := F0 m 4 ls []) rfl ?_
  refine lv_aload_n hx hb dX1_init_4 rfl (lv_at hl 0 rfl) ?_
  refine lv_bipush (v := 61) hx hb dX1_init_5 (by decide) ?_
  refine va_newa (atype := .long) (n := (61 : Int32)) (ty := .long) (a0 := (61, .inr (.inl (fun _ => 0)))) (N' := 61) hx hb (hts (.arrayClass .long) lk_X1_init_aJ) rfl hK hP hD hS hA (fun _ => rfl) (by decide +kernel) (by decide +kernel) (by decide +kernel) (Nat.le_of_ble_eq_true rfl) (Nat.le_of_ble_eq_true rfl) dX1_init_7 (fun a_chosen cA H hK9 hP hD hS => ?_)
  have h9 := nw_J hK9
  subst cA
  refine W.widen (k := 1) (n := 61) (by decide) (by decide) ?_
  have hP : va_P (dC, dI) vwCl ([(a_this, .inr (2, [.null, .null, .null, .null, .null, .null, .int 0, .int 0])), (a_chosen, .inl (cJ, 61, .inr (.inl (fun _ => 0))))]) H := hP
  have hD : va_D A ([(a_this, .inr (2, [.null, .null, .null, .null, .null, .null, .int 0, .int 0])), (a_chosen, .inl (cJ, 61, .inr (.inl (fun _ => 0))))]) := hD
  refine va_putF (D := (dC, dI)) (ci := 2) (v := .ref a_chosen) (ty := .array .long) (C := RX1) (T := TX1) (N := 8) hx hb hts in_X1_init_X1 tyX1 tyX1_ok nmX1 hown hK hP hD hS 0 rfl rfl 1 (by decide) (hts (.fieldLink RX1 9 "LinkedCovers$Search" "chosen" "[J") lk_X1_init_f9) (fun _ h9 => h9) rfl hin rfl (by decide +kernel) rfl rfl (Nat.le_of_ble_eq_true rfl) dX1_init_9 (fun H locs hP hD hS => ?_)
  have hP : va_P (dC, dI) vwCl ([(a_this, .inr (2, [.null, .ref a_chosen, .null, .null, .null, .null, .int 0, .int 0])), (a_chosen, .inl (cJ, 61, .inr (.inl (fun _ => 0))))]) H := hP
  have hD : va_D A ([(a_this, .inr (2, [.null, .ref a_chosen, .null, .null, .null, .null, .int 0, .int 0])), (a_chosen, .inl (cJ, 61, .inr (.inl (fun _ => 0))))]) := hD
  refine lv_aload_n hx hb dX1_init_12 rfl (lv_at hl 0 rfl) ?_
  refine lv_bipush (v := 61) hx hb dX1_init_13 (by decide) ?_
  refine va_newa (atype := .long) (n := (61 : Int32)) (ty := .long) (a0 := (61, .inr (.inl (fun _ => 0)))) (N' := 61) hx hb (hts (.arrayClass .long) lk_X1_init_aJ) rfl hK hP hD hS hA (fun _ => rfl) (by decide +kernel) (by decide +kernel) (by decide +kernel) (Nat.le_of_ble_eq_true rfl) (Nat.le_of_ble_eq_true rfl) dX1_init_15 (fun a_free cA H hK9 hP hD hS => ?_)
  have h9 := nw_J hK9
  subst cA
  refine W.widen (k := 2) (n := 122) (by decide) (by decide) ?_
  have hP : va_P (dC, dI) vwCl ([(a_this, .inr (2, [.null, .ref a_chosen, .null, .null, .null, .null, .int 0, .int 0])), (a_chosen, .inl (cJ, 61, .inr (.inl (fun _ => 0)))), (a_free, .inl (cJ, 61, .inr (.inl (fun _ => 0))))]) H := hP
  have hD : va_D A ([(a_this, .inr (2, [.null, .ref a_chosen, .null, .null, .null, .null, .int 0, .int 0])), (a_chosen, .inl (cJ, 61, .inr (.inl (fun _ => 0)))), (a_free, .inl (cJ, 61, .inr (.inl (fun _ => 0))))]) := hD
  refine va_putF (D := (dC, dI)) (ci := 2) (v := .ref a_free) (ty := .array .long) (C := RX1) (T := TX1) (N := 8) hx hb hts in_X1_init_X1 tyX1 tyX1_ok nmX1 hown hK hP hD hS 0 rfl rfl 2 (by decide) (hts (.fieldLink RX1 15 "LinkedCovers$Search" "free" "[J") lk_X1_init_f15) (fun _ h9 => h9) rfl hin rfl (by decide +kernel) rfl rfl (Nat.le_of_ble_eq_true rfl) dX1_init_17 (fun H locs hP hD hS => ?_)
  have hP : va_P (dC, dI) vwCl ([(a_this, .inr (2, [.null, .ref a_chosen, .ref a_free, .null, .null, .null, .int 0, .int 0])), (a_chosen, .inl (cJ, 61, .inr (.inl (fun _ => 0)))), (a_free, .inl (cJ, 61, .inr (.inl (fun _ => 0))))]) H := hP
  have hD : va_D A ([(a_this, .inr (2, [.null, .ref a_chosen, .ref a_free, .null, .null, .null, .int 0, .int 0])), (a_chosen, .inl (cJ, 61, .inr (.inl (fun _ => 0)))), (a_free, .inl (cJ, 61, .inr (.inl (fun _ => 0))))]) := hD
  refine lv_aload_n hx hb dX1_init_20 rfl (lv_at hl 0 rfl) ?_
  refine lv_bipush (v := 61) hx hb dX1_init_21 (by decide) ?_
  refine va_newa (atype := .long) (n := (61 : Int32)) (ty := .long) (a0 := (61, .inr (.inl (fun _ => 0)))) (N' := 61) hx hb (hts (.arrayClass .long) lk_X1_init_aJ) rfl hK hP hD hS hA (fun _ => rfl) (by decide +kernel) (by decide +kernel) (by decide +kernel) (Nat.le_of_ble_eq_true rfl) (Nat.le_of_ble_eq_true rfl) dX1_init_23 (fun a_untried cA H hK9 hP hD hS => ?_)
  have h9 := nw_J hK9
  subst cA
  refine W.widen (k := 3) (n := 183) (by decide) (by decide) ?_
  have hP : va_P (dC, dI) vwCl ([(a_this, .inr (2, [.null, .ref a_chosen, .ref a_free, .null, .null, .null, .int 0, .int 0])), (a_chosen, .inl (cJ, 61, .inr (.inl (fun _ => 0)))), (a_free, .inl (cJ, 61, .inr (.inl (fun _ => 0)))), (a_untried, .inl (cJ, 61, .inr (.inl (fun _ => 0))))]) H := hP
  have hD : va_D A ([(a_this, .inr (2, [.null, .ref a_chosen, .ref a_free, .null, .null, .null, .int 0, .int 0])), (a_chosen, .inl (cJ, 61, .inr (.inl (fun _ => 0)))), (a_free, .inl (cJ, 61, .inr (.inl (fun _ => 0)))), (a_untried, .inl (cJ, 61, .inr (.inl (fun _ => 0))))]) := hD
  refine va_putF (D := (dC, dI)) (ci := 2) (v := .ref a_untried) (ty := .array .long) (C := RX1) (T := TX1) (N := 8) hx hb hts in_X1_init_X1 tyX1 tyX1_ok nmX1 hown hK hP hD hS 0 rfl rfl 3 (by decide) (hts (.fieldLink RX1 18 "LinkedCovers$Search" "untried" "[J") lk_X1_init_f18) (fun _ h9 => h9) rfl hin rfl (by decide +kernel) rfl rfl (Nat.le_of_ble_eq_true rfl) dX1_init_25 (fun H locs hP hD hS => ?_)
  have hP : va_P (dC, dI) vwCl ([(a_this, .inr (2, [.null, .ref a_chosen, .ref a_free, .ref a_untried, .null, .null, .int 0, .int 0])), (a_chosen, .inl (cJ, 61, .inr (.inl (fun _ => 0)))), (a_free, .inl (cJ, 61, .inr (.inl (fun _ => 0)))), (a_untried, .inl (cJ, 61, .inr (.inl (fun _ => 0))))]) H := hP
  have hD : va_D A ([(a_this, .inr (2, [.null, .ref a_chosen, .ref a_free, .ref a_untried, .null, .null, .int 0, .int 0])), (a_chosen, .inl (cJ, 61, .inr (.inl (fun _ => 0)))), (a_free, .inl (cJ, 61, .inr (.inl (fun _ => 0)))), (a_untried, .inl (cJ, 61, .inr (.inl (fun _ => 0))))]) := hD
  refine lv_aload_n hx hb dX1_init_28 rfl (lv_at hl 0 rfl) ?_
  refine lv_bipush (v := 61) hx hb dX1_init_29 (by decide) ?_
  refine va_newa (atype := .int) (n := (61 : Int32)) (ty := .int) (a0 := (61, .inl (fun _ => 0))) (N' := 61) hx hb (hts (.arrayClass .int) lk_X1_init_aI) rfl hK hP hD hS hA (fun _ => rfl) (by decide +kernel) (by decide +kernel) (by decide +kernel) (Nat.le_of_ble_eq_true rfl) (Nat.le_of_ble_eq_true rfl) dX1_init_31 (fun a_uncovered cA H hK9 hP hD hS => ?_)
  have h9 := nw_I hK9
  subst cA
  refine W.widen (k := 4) (n := 244) (by decide) (by decide) ?_
  have hP : va_P (dC, dI) vwCl ([(a_this, .inr (2, [.null, .ref a_chosen, .ref a_free, .ref a_untried, .null, .null, .int 0, .int 0])), (a_chosen, .inl (cJ, 61, .inr (.inl (fun _ => 0)))), (a_free, .inl (cJ, 61, .inr (.inl (fun _ => 0)))), (a_untried, .inl (cJ, 61, .inr (.inl (fun _ => 0)))), (a_uncovered, .inl (cI, 61, .inl (fun _ => 0)))]) H := hP
  have hD : va_D A ([(a_this, .inr (2, [.null, .ref a_chosen, .ref a_free, .ref a_untried, .null, .null, .int 0, .int 0])), (a_chosen, .inl (cJ, 61, .inr (.inl (fun _ => 0)))), (a_free, .inl (cJ, 61, .inr (.inl (fun _ => 0)))), (a_untried, .inl (cJ, 61, .inr (.inl (fun _ => 0)))), (a_uncovered, .inl (cI, 61, .inl (fun _ => 0)))]) := hD
  refine va_putF (D := (dC, dI)) (ci := 2) (v := .ref a_uncovered) (ty := .array .int) (C := RX1) (T := TX1) (N := 8) hx hb hts in_X1_init_X1 tyX1 tyX1_ok nmX1 hown hK hP hD hS 0 rfl rfl 4 (by decide) (hts (.fieldLink RX1 21 "LinkedCovers$Search" "uncovered" "[I") lk_X1_init_f21) (fun _ h9 => h9) rfl hin rfl (by decide +kernel) rfl rfl (Nat.le_of_ble_eq_true rfl) dX1_init_33 (fun H locs hP hD hS => ?_)
  have hP : va_P (dC, dI) vwCl ([(a_this, .inr (2, [.null, .ref a_chosen, .ref a_free, .ref a_untried, .ref a_uncovered, .null, .int 0, .int 0])), (a_chosen, .inl (cJ, 61, .inr (.inl (fun _ => 0)))), (a_free, .inl (cJ, 61, .inr (.inl (fun _ => 0)))), (a_untried, .inl (cJ, 61, .inr (.inl (fun _ => 0)))), (a_uncovered, .inl (cI, 61, .inl (fun _ => 0)))]) H := hP
  have hD : va_D A ([(a_this, .inr (2, [.null, .ref a_chosen, .ref a_free, .ref a_untried, .ref a_uncovered, .null, .int 0, .int 0])), (a_chosen, .inl (cJ, 61, .inr (.inl (fun _ => 0)))), (a_free, .inl (cJ, 61, .inr (.inl (fun _ => 0)))), (a_untried, .inl (cJ, 61, .inr (.inl (fun _ => 0)))), (a_uncovered, .inl (cI, 61, .inl (fun _ => 0)))]) := hD
  refine lv_aload_n hx hb dX1_init_36 rfl (lv_at hl 0 rfl) ?_
  refine lv_bipush (v := 100) hx hb dX1_init_37 (by decide) ?_
  refine va_newa (atype := .long) (n := (100 : Int32)) (ty := .long) (a0 := (100, .inr (.inl (fun _ => 0)))) (N' := 100) hx hb (hts (.arrayClass .long) lk_X1_init_aJ) rfl hK hP hD hS hA (fun _ => rfl) (by decide +kernel) (by decide +kernel) (by decide +kernel) (Nat.le_of_ble_eq_true rfl) (Nat.le_of_ble_eq_true rfl) dX1_init_39 (fun a_kept cA H hK9 hP hD hS => ?_)
  have h9 := nw_J hK9
  subst cA
  refine W.widen (k := 5) (n := 344) (by decide) (by decide) ?_
  have hP : va_P (dC, dI) vwCl ([(a_this, .inr (2, [.null, .ref a_chosen, .ref a_free, .ref a_untried, .ref a_uncovered, .null, .int 0, .int 0])), (a_chosen, .inl (cJ, 61, .inr (.inl (fun _ => 0)))), (a_free, .inl (cJ, 61, .inr (.inl (fun _ => 0)))), (a_untried, .inl (cJ, 61, .inr (.inl (fun _ => 0)))), (a_uncovered, .inl (cI, 61, .inl (fun _ => 0))), (a_kept, .inl (cJ, 100, .inr (.inl (fun _ => 0))))]) H := hP
  have hD : va_D A ([(a_this, .inr (2, [.null, .ref a_chosen, .ref a_free, .ref a_untried, .ref a_uncovered, .null, .int 0, .int 0])), (a_chosen, .inl (cJ, 61, .inr (.inl (fun _ => 0)))), (a_free, .inl (cJ, 61, .inr (.inl (fun _ => 0)))), (a_untried, .inl (cJ, 61, .inr (.inl (fun _ => 0)))), (a_uncovered, .inl (cI, 61, .inl (fun _ => 0))), (a_kept, .inl (cJ, 100, .inr (.inl (fun _ => 0))))]) := hD
  refine va_putF (D := (dC, dI)) (ci := 2) (v := .ref a_kept) (ty := .array .long) (C := RX1) (T := TX1) (N := 8) hx hb hts in_X1_init_X1 tyX1 tyX1_ok nmX1 hown hK hP hD hS 0 rfl rfl 5 (by decide) (hts (.fieldLink RX1 25 "LinkedCovers$Search" "kept" "[J") lk_X1_init_f25) (fun _ h9 => h9) rfl hin rfl (by decide +kernel) rfl rfl (Nat.le_of_ble_eq_true rfl) dX1_init_41 (fun H locs hP hD hS => ?_)
  have hP : va_P (dC, dI) vwCl ([(a_this, .inr (2, [.null, .ref a_chosen, .ref a_free, .ref a_untried, .ref a_uncovered, .ref a_kept, .int 0, .int 0])), (a_chosen, .inl (cJ, 61, .inr (.inl (fun _ => 0)))), (a_free, .inl (cJ, 61, .inr (.inl (fun _ => 0)))), (a_untried, .inl (cJ, 61, .inr (.inl (fun _ => 0)))), (a_uncovered, .inl (cI, 61, .inl (fun _ => 0))), (a_kept, .inl (cJ, 100, .inr (.inl (fun _ => 0))))]) H := hP
  have hD : va_D A ([(a_this, .inr (2, [.null, .ref a_chosen, .ref a_free, .ref a_untried, .ref a_uncovered, .ref a_kept, .int 0, .int 0])), (a_chosen, .inl (cJ, 61, .inr (.inl (fun _ => 0)))), (a_free, .inl (cJ, 61, .inr (.inl (fun _ => 0)))), (a_untried, .inl (cJ, 61, .inr (.inl (fun _ => 0)))), (a_uncovered, .inl (cI, 61, .inl (fun _ => 0))), (a_kept, .inl (cJ, 100, .inr (.inl (fun _ => 0))))]) := hD
  refine lv_aload_n hx hb dX1_init_44 rfl (lv_at hl 0 rfl) ?_
  refine lv_aload_n hx hb dX1_init_45 rfl (lv_at hl 1 rfl) ?_
  refine va_putF (D := (dC, dI)) (ci := 2) (v := .ref a_p1) (ty := .object "LinkedCovers$Table") (C := RX1) (T := TX1) (N := 8) hx hb hts in_X1_init_X1 tyX1 tyX1_ok nmX1 hown hK hP hD hS 0 rfl rfl 0 (by decide) (hts (.fieldLink RX1 28 "LinkedCovers$Search" "table" "LLinkedCovers$Table;") lk_X1_init_f28) (fun _ h9 => h9) rfl hin rfl (by decide +kernel) rfl rfl (Nat.le_of_ble_eq_true rfl) dX1_init_46 (fun H locs hP hD hS => ?_)
  have hP : va_P (dC, dI) vwCl ([(a_this, .inr (2, [.ref a_p1, .ref a_chosen, .ref a_free, .ref a_untried, .ref a_uncovered, .ref a_kept, .int 0, .int 0])), (a_chosen, .inl (cJ, 61, .inr (.inl (fun _ => 0)))), (a_free, .inl (cJ, 61, .inr (.inl (fun _ => 0)))), (a_untried, .inl (cJ, 61, .inr (.inl (fun _ => 0)))), (a_uncovered, .inl (cI, 61, .inl (fun _ => 0))), (a_kept, .inl (cJ, 100, .inr (.inl (fun _ => 0))))]) H := hP
  have hD : va_D A ([(a_this, .inr (2, [.ref a_p1, .ref a_chosen, .ref a_free, .ref a_untried, .ref a_uncovered, .ref a_kept, .int 0, .int 0])), (a_chosen, .inl (cJ, 61, .inr (.inl (fun _ => 0)))), (a_free, .inl (cJ, 61, .inr (.inl (fun _ => 0)))), (a_untried, .inl (cJ, 61, .inr (.inl (fun _ => 0)))), (a_uncovered, .inl (cI, 61, .inl (fun _ => 0))), (a_kept, .inl (cJ, 100, .inr (.inl (fun _ => 0))))]) := hD
  refine W.widen (k := 5) (n := 344) (by decide) (by decide) ?_
  have hP : va_P (dC, dI) vwCl (ws_X1_init cB cI cJ cZ a_this a_chosen a_free a_untried a_uncovered a_kept a_p1 0 0 (fun _ => 0) (fun _ => 0) (fun _ => 0) (fun _ => 0) (fun _ => 0)) H := hP
  have hD : va_D A (ws_X1_init cB cI cJ cZ a_this a_chosen a_free a_untried a_uncovered a_kept a_p1 0 0 (fun _ => 0) (fun _ => 0) (fun _ => 0) (fun _ => 0) (fun _ => 0)) := hD
  exact W.vret hx hb hr (fun t ht hW => ⟨⟨(0, 0, (fun _ => 0), (fun _ => 0), (fun _ => 0), (fun _ => 0), (fun _ => 0)), rfl, Option.some.inj hf, a_chosen, a_free, a_untried, a_uncovered, a_kept, by rw [ht]; exact hP, va_K.moved hW.alike hK, hD⟩, hS.F ht⟩) hS.2.2 dX1_init_49
-- X3.<init>(LLinkedCovers$Table;)V: 18 instructions
theorem in_X3_init_X3 : ∀ w ∈ wsX30, w ∈ wsX3_init := by decide +kernel
abbrev ws_X3_init (cB cI cJ cZ : ClassId) (a_this a_targets a_rowImages a_classOf a_p1 : Nat) (v_count : Int32) (v_targets : (Nat → Int32)) (v_rowImages : (Nat → Int32)) (v_classOf : (Nat → Int32)) : va_W := [(a_this, .inr (4, [.ref a_p1, .ref a_targets, .ref a_rowImages, .ref a_classOf, .int v_count])), (a_targets, .inl (cI, 192, .inl v_targets)), (a_rowImages, .inl (cI, 480, .inl v_rowImages)), (a_classOf, .inl (cI, 100, .inl v_classOf))]
abbrev rm_X3_init : Room := { frames := 1, cells := 3, slots := 772, locals := 12 }
theorem lk_X3_init_o3 : Cond.methodLink RX3 3 objectInit ∈ wsX3_init := by decide +kernel
theorem lk_X3_init_oi : Cond.instanceMethod objectInit ∈ wsX3_init := by decide +kernel
theorem lk_X3_init_oc : Cond.code objectInit ⟨#[0xb1]⟩ 1 none ∈ wsX3_init := by decide +kernel
theorem lk_X3_init_aI : Cond.arrayClass .int ∈ wsX3_init := by decide +kernel
theorem lk_X3_init_f9 : Cond.fieldLink RX3 9 "LinkedCovers$Turns" "targets" "[I" ∈ wsX3_init := by decide +kernel
theorem lk_X3_init_f15 : Cond.fieldLink RX3 15 "LinkedCovers$Turns" "rowImages" "[I" ∈ wsX3_init := by decide +kernel
theorem lk_X3_init_f18 : Cond.fieldLink RX3 18 "LinkedCovers$Turns" "classOf" "[I" ∈ wsX3_init := by decide +kernel
theorem lk_X3_init_f21 : Cond.fieldLink RX3 21 "LinkedCovers$Turns" "table" "LLinkedCovers$Table;" ∈ wsX3_init := by decide +kernel
def f_X3_init  : Option (Int32 × (Nat → Int32) × (Nat → Int32) × (Nat → Int32)) :=
  some (0, (fun _ => 0), (fun _ => 0), (fun _ => 0))
abbrev qc_X3_init (A : Nat → Prop) (dC : Nat → ClassId) (dI : Nat → Nat → Nat) (cB cI cJ cZ : ClassId) (a_this a_p1 : Nat)  (out : Int32 × (Nat → Int32) × (Nat → Int32) × (Nat → Int32)) : Array Value → State → Outcome → State → Prop := va_Qv (fun u : Int32 × (Nat → Int32) × (Nat → Int32) × (Nat → Int32) => u = out) (fun (u : Int32 × (Nat → Int32) × (Nat → Int32) × (Nat → Int32)) (t : State) => ∃ (a_targets a_rowImages a_classOf : Nat), va_P (dC, dI) vwCl (ws_X3_init cB cI cJ cZ a_this a_targets a_rowImages a_classOf a_p1 u.1 u.2.1 u.2.2.1 u.2.2.2) t.heap ∧ va_K (dC, dI) vwCl (tysG cB cI cJ cZ) t ∧ va_D A (ws_X3_init cB cI cJ cZ a_this a_targets a_rowImages a_classOf a_p1 u.1 u.2.1 u.2.2.1 u.2.2.2)) A
theorem nd_X3_init : yX3_init.cls ≠ "java/lang/invoke/MethodHandle" ∧ yX3_init.cls ≠ "java/lang/invoke/VarHandle" ∧ (parseMethodDescriptor yX3_init.desc).map (fun d => d.parameters.length) = some 1 := by decide +kernel
set_option maxHeartbeats 4000000 in
set_option maxRecDepth 100000 in
theorem c_X3_init (l : Launch) (dC : Nat → ClassId) (dI : Nat → Nat → Nat) (cB cI cJ cZ : ClassId) (a_this a_p1 : Nat) (sz : Nat)  (out : Int32 × (Nat → Int32) × (Nat → Int32) × (Nat → Int32)) (hf : f_X3_init  = some out) : Met l yX3_init wsX3_init rm_X3_init (va_Pc [.ref a_this, .ref a_p1] (fun U => U.heap.size = sz ∧ va_P (dC, dI) vwCl [(a_this, .inr (4, [.null, .null, .null, .null, .int 0]))] U.heap ∧ va_K (dC, dI) vwCl (tysG cB cI cJ cZ) U ∧ va_D (fun _ => True) [(a_this, .inr (4, [.null, .null, .null, .null, .int 0]))])) (qc_X3_init (va_A [(a_this, .inr (4, [.null, .null, .null, .null, .int 0]))] sz) dC dI cB cI cJ cZ a_this a_p1 out) 3 772 (va_A [(a_this, .inr (4, [.null, .null, .null, .null, .int 0]))] sz) := by
  refine Met.ofW (cc := cX3_init) (maxL := 2) (ret := none) (by decide) rfl ?_
  intro p e s m args below meth c s₁ B hml hv
  obtain ⟨rfl, hsz, hP, hK, hD0⟩ := hv
  subst hsz
  have hD := hD0.self (sz := s.heap.size)
  generalize hAe : va_A [(a_this, .inr (4, [.null, .null, .null, .null, .int 0]))] s.heap.size = A at hD ⊢
  have hA : ∀ q : Nat, s.heap.size ≤ q → A q := fun q h => by rw [← hAe]; exact Or.inr h
  have hl := lv_entry ([.ref a_this, .ref a_p1]) (n := 2) (Nat.le_of_ble_eq_true rfl)
  rw [lg_entry_eq]
  generalize (lg_sl ([.ref a_this, .ref a_p1]) ++ List.replicate (2 - (lg_sl ([.ref a_this, .ref a_p1])).length) Slot.unset).toArray = ls at hl ⊢
  have hl : lv_has ls 2 [(0, .ref a_this), (1, .ref a_p1)] := hl
  have hin : meth.name = "<init>" := (name_of_methodNamed B.named B.method).1
  have C0 : Cx RX3 cX3_init none 2 wsX3_init p s m _ meth c A := ⟨B.exec, B.bytes, B.returns, hml, findClass_of_methodNamed B.named, atoms_spec (ws := wsX3_init) B.pre, B.notSynchronized, hA⟩
  obtain ⟨hx, hb, hr, hml, hown, hts, hlocks, hA⟩ := id C0
  have hS : va_S A s.heap s.heap [] := va_S.rf
  replace hf : ((some (0, (fun _ => 0), (fun _ => 0), (fun _ => 0))) : Option (Int32 × (Nat → Int32) × (Nat → Int32) × (Nat → Int32))) = some out := hf
  refine lv_aload_n hx hb dX3_init_0 rfl (lv_at hl 0 rfl) ?_
  refine W.objInit hx hb hown (hts (.methodLink RX3 3 objectInit) lk_X3_init_o3) (hts (.instanceMethod objectInit) lk_X3_init_oi) (hts (.code objectInit ⟨#[0xb1]⟩ 1 none) lk_X3_init_oc) rfl (by rw [hml]; exact hl.1) rfl dX3_init_1 (Nat.le_of_ble_eq_true rfl) (Nat.le_of_ble_eq_true rfl) ?_
  refine W.eq (g2 := F0 m 4 ls []) rfl ?_
  refine lv_aload_n hx hb dX3_init_4 rfl (lv_at hl 0 rfl) ?_
  refine lv_sipush (v := 192) hx hb dX3_init_5 (by decide) ?_
  refine va_newa (atype := .int) (n := (192 : Int32)) (ty := .int) (a0 := (192, .inl (fun _ => 0))) (N' := 192) hx hb (hts (.arrayClass .int) lk_X3_init_aI) rfl hK hP hD hS hA (fun _ => rfl) (by decide +kernel) (by decide +kernel) (by decide +kernel) (Nat.le_of_ble_eq_true rfl) (Nat.le_of_ble_eq_true rfl) dX3_init_8 (fun a_targets cA H hK9 hP hD hS => ?_)
  have h9 := nw_I hK9
  subst cA
  refine W.widen (k := 1) (n := 192) (by decide) (by decide) ?_
  have hP : va_P (dC, dI) vwCl ([(a_this, .inr (4, [.null, .null, .null, .null, .int 0])), (a_targets, .inl (cI, 192, .inl (fun _ => 0)))]) H := hP
  have hD : va_D A ([(a_this, .inr (4, [.null, .null, .null, .null, .int 0])), (a_targets, .inl (cI, 192, .inl (fun _ => 0)))]) := hD
  refine va_putF (D := (dC, dI)) (ci := 4) (v := .ref a_targets) (ty := .array .int) (C := RX3) (T := TX3) (N := 5) hx hb hts in_X3_init_X3 tyX3 tyX3_ok nmX3 hown hK hP hD hS 0 rfl rfl 1 (by decide) (hts (.fieldLink RX3 9 "LinkedCovers$Turns" "targets" "[I") lk_X3_init_f9) (fun _ h9 => h9) rfl hin rfl (by decide +kernel) rfl rfl (Nat.le_of_ble_eq_true rfl) dX3_init_10 (fun H locs hP hD hS => ?_)
  have hP : va_P (dC, dI) vwCl ([(a_this, .inr (4, [.null, .ref a_targets, .null, .null, .int 0])), (a_targets, .inl (cI, 192, .inl (fun _ => 0)))]) H := hP
  have hD : va_D A ([(a_this, .inr (4, [.null, .ref a_targets, .null, .null, .int 0])), (a_targets, .inl (cI, 192, .inl (fun _ => 0)))]) := hD
  refine lv_aload_n hx hb dX3_init_13 rfl (lv_at hl 0 rfl) ?_
  refine lv_sipush (v := 480) hx hb dX3_init_14 (by decide) ?_
  refine va_newa (atype := .int) (n := (480 : Int32)) (ty := .int) (a0 := (480, .inl (fun _ => 0))) (N' := 480) hx hb (hts (.arrayClass .int) lk_X3_init_aI) rfl hK hP hD hS hA (fun _ => rfl) (by decide +kernel) (by decide +kernel) (by decide +kernel) (Nat.le_of_ble_eq_true rfl) (Nat.le_of_ble_eq_true rfl) dX3_init_17 (fun a_rowImages cA H hK9 hP hD hS => ?_)
  have h9 := nw_I hK9
  subst cA
  refine W.widen (k := 2) (n := 672) (by decide) (by decide) ?_
  have hP : va_P (dC, dI) vwCl ([(a_this, .inr (4, [.null, .ref a_targets, .null, .null, .int 0])), (a_targets, .inl (cI, 192, .inl (fun _ => 0))), (a_rowImages, .inl (cI, 480, .inl (fun _ => 0)))]) H := hP
  have hD : va_D A ([(a_this, .inr (4, [.null, .ref a_targets, .null, .null, .int 0])), (a_targets, .inl (cI, 192, .inl (fun _ => 0))), (a_rowImages, .inl (cI, 480, .inl (fun _ => 0)))]) := hD
  refine va_putF (D := (dC, dI)) (ci := 4) (v := .ref a_rowImages) (ty := .array .int) (C := RX3) (T := TX3) (N := 5) hx hb hts in_X3_init_X3 tyX3 tyX3_ok nmX3 hown hK hP hD hS 0 rfl rfl 2 (by decide) (hts (.fieldLink RX3 15 "LinkedCovers$Turns" "rowImages" "[I") lk_X3_init_f15) (fun _ h9 => h9) rfl hin rfl (by decide +kernel) rfl rfl (Nat.le_of_ble_eq_true rfl) dX3_init_19 (fun H locs hP hD hS => ?_)
  have hP : va_P (dC, dI) vwCl ([(a_this, .inr (4, [.null, .ref a_targets, .ref a_rowImages, .null, .int 0])), (a_targets, .inl (cI, 192, .inl (fun _ => 0))), (a_rowImages, .inl (cI, 480, .inl (fun _ => 0)))]) H := hP
  have hD : va_D A ([(a_this, .inr (4, [.null, .ref a_targets, .ref a_rowImages, .null, .int 0])), (a_targets, .inl (cI, 192, .inl (fun _ => 0))), (a_rowImages, .inl (cI, 480, .inl (fun _ => 0)))]) := hD
  refine lv_aload_n hx hb dX3_init_22 rfl (lv_at hl 0 rfl) ?_
  refine lv_bipush (v := 100) hx hb dX3_init_23 (by decide) ?_
  refine va_newa (atype := .int) (n := (100 : Int32)) (ty := .int) (a0 := (100, .inl (fun _ => 0))) (N' := 100) hx hb (hts (.arrayClass .int) lk_X3_init_aI) rfl hK hP hD hS hA (fun _ => rfl) (by decide +kernel) (by decide +kernel) (by decide +kernel) (Nat.le_of_ble_eq_true rfl) (Nat.le_of_ble_eq_true rfl) dX3_init_25 (fun a_classOf cA H hK9 hP hD hS => ?_)
  have h9 := nw_I hK9
  subst cA
  refine W.widen (k := 3) (n := 772) (by decide) (by decide) ?_
  have hP : va_P (dC, dI) vwCl ([(a_this, .inr (4, [.null, .ref a_targets, .ref a_rowImages, .null, .int 0])), (a_targets, .inl (cI, 192, .inl (fun _ => 0))), (a_rowImages, .inl (cI, 480, .inl (fun _ => 0))), (a_classOf, .inl (cI, 100, .inl (fun _ => 0)))]) H := hP
  have hD : va_D A ([(a_this, .inr (4, [.null, .ref a_targets, .ref a_rowImages, .null, .int 0])), (a_targets, .inl (cI, 192, .inl (fun _ => 0))), (a_rowImages, .inl (cI, 480, .inl (fun _ => 0))), (a_classOf, .inl (cI, 100, .inl (fun _ => 0)))]) := hD
  refine va_putF (D := (dC, dI)) (ci := 4) (v := .ref a_classOf) (ty := .array .int) (C := RX3) (T := TX3) (N := 5) hx hb hts in_X3_init_X3 tyX3 tyX3_ok nmX3 hown hK hP hD hS 0 rfl rfl 3 (by decide) (hts (.fieldLink RX3 18 "LinkedCovers$Turns" "classOf" "[I") lk_X3_init_f18) (fun _ h9 => h9) rfl hin rfl (by decide +kernel) rfl rfl (Nat.le_of_ble_eq_true rfl) dX3_init_27 (fun H locs hP hD hS => ?_)
  have hP : va_P (dC, dI) vwCl ([(a_this, .inr (4, [.null, .ref a_targets, .ref a_rowImages, .ref a_classOf, .int 0])), (a_targets, .inl (cI, 192, .inl (fun _ => 0))), (a_rowImages, .inl (cI, 480, .inl (fun _ => 0))), (a_classOf, .inl (cI, 100, .inl (fun _ => 0)))]) H := hP
  have hD : va_D A ([(a_this, .inr (4, [.null, .ref a_targets, .ref a_rowImages, .ref a_classOf, .int 0])), (a_targets, .inl (cI, 192, .inl (fun _ => 0))), (a_rowImages, .inl (cI, 480, .inl (fun _ => 0))), (a_classOf, .inl (cI, 100, .inl (fun _ => 0)))]) := hD
  refine lv_aload_n hx hb dX3_init_30 rfl (lv_at hl 0 rfl) ?_
  refine lv_aload_n hx hb dX3_init_31 rfl (lv_at hl 1 rfl) ?_
  refine va_putF (D := (dC, dI)) (ci := 4) (v := .ref a_p1) (ty := .object "LinkedCovers$Table") (C := RX3) (T := TX3) (N := 5) hx hb hts in_X3_init_X3 tyX3 tyX3_ok nmX3 hown hK hP hD hS 0 rfl rfl 0 (by decide) (hts (.fieldLink RX3 21 "LinkedCovers$Turns" "table" "LLinkedCovers$Table;") lk_X3_init_f21) (fun _ h9 => h9) rfl hin rfl (by decide +kernel) rfl rfl (Nat.le_of_ble_eq_true rfl) dX3_init_32 (fun H locs hP hD hS => ?_)
  have hP : va_P (dC, dI) vwCl ([(a_this, .inr (4, [.ref a_p1, .ref a_targets, .ref a_rowImages, .ref a_classOf, .int 0])), (a_targets, .inl (cI, 192, .inl (fun _ => 0))), (a_rowImages, .inl (cI, 480, .inl (fun _ => 0))), (a_classOf, .inl (cI, 100, .inl (fun _ => 0)))]) H := hP
  have hD : va_D A ([(a_this, .inr (4, [.ref a_p1, .ref a_targets, .ref a_rowImages, .ref a_classOf, .int 0])), (a_targets, .inl (cI, 192, .inl (fun _ => 0))), (a_rowImages, .inl (cI, 480, .inl (fun _ => 0))), (a_classOf, .inl (cI, 100, .inl (fun _ => 0)))]) := hD
  refine W.widen (k := 3) (n := 772) (by decide) (by decide) ?_
  have hP : va_P (dC, dI) vwCl (ws_X3_init cB cI cJ cZ a_this a_targets a_rowImages a_classOf a_p1 0 (fun _ => 0) (fun _ => 0) (fun _ => 0)) H := hP
  have hD : va_D A (ws_X3_init cB cI cJ cZ a_this a_targets a_rowImages a_classOf a_p1 0 (fun _ => 0) (fun _ => 0) (fun _ => 0)) := hD
  exact W.vret hx hb hr (fun t ht hW => ⟨⟨(0, (fun _ => 0), (fun _ => 0), (fun _ => 0)), rfl, Option.some.inj hf, a_targets, a_rowImages, a_classOf, by rw [ht]; exact hP, va_K.moved hW.alike hK, hD⟩, hS.F ht⟩) hS.2.2 dX3_init_35
