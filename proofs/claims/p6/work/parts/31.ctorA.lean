-- X0.<init>()V: 7 instructions
theorem in_X0_init_X0 : ∀ w ∈ wsX00, w ∈ wsX0_init := by decide +kernel
abbrev ws_X0_init (cB cI cJ cZ : ClassId) (a_this a_sets : Nat) (v_cubes : Int32) (v_width : Int32) (v_height : Int32) (v_depth : Int32) (v_setCount : Int32) (v_roomIsShort : Int32) (v_sets : (Nat → Int32)) : va_W := [(a_this, .inr (1, [.ref a_sets, .int v_cubes, .int v_width, .int v_height, .int v_depth, .int v_setCount, .int v_roomIsShort])), (a_sets, .inl (cI, 60, .inl v_sets))]
abbrev rm_X0_init : Room := { frames := 1, cells := 1, slots := 60, locals := 12 }
theorem lk_X0_init_o3 : Cond.methodLink RX0 3 objectInit ∈ wsX0_init := by decide +kernel
theorem lk_X0_init_oi : Cond.instanceMethod objectInit ∈ wsX0_init := by decide +kernel
theorem lk_X0_init_oc : Cond.code objectInit ⟨#[0xb1]⟩ 1 none ∈ wsX0_init := by decide +kernel
theorem lk_X0_init_aI : Cond.arrayClass .int ∈ wsX0_init := by decide +kernel
theorem lk_X0_init_f9 : Cond.fieldLink RX0 9 "LinkedCovers$Piece" "sets" "[I" ∈ wsX0_init := by decide +kernel
def f_X0_init  : Option (Int32 × Int32 × Int32 × Int32 × Int32 × Int32 × (Nat → Int32)) :=
  some (0, 0, 0, 0, 0, 0, (fun _ => 0))
abbrev qc_X0_init (A : Nat → Prop) (dC : Nat → ClassId) (dI : Nat → Nat → Nat) (cB cI cJ cZ : ClassId) (a_this : Nat)  (out : Int32 × Int32 × Int32 × Int32 × Int32 × Int32 × (Nat → Int32)) : Array Value → State → Outcome → State → Prop := va_Qv (fun u : Int32 × Int32 × Int32 × Int32 × Int32 × Int32 × (Nat → Int32) => u = out) (fun (u : Int32 × Int32 × Int32 × Int32 × Int32 × Int32 × (Nat → Int32)) (t : State) => ∃ (a_sets : Nat), va_P (dC, dI) vwCl (ws_X0_init cB cI cJ cZ a_this a_sets u.1 u.2.1 u.2.2.1 u.2.2.2.1 u.2.2.2.2.1 u.2.2.2.2.2.1 u.2.2.2.2.2.2) t.heap ∧ va_K (dC, dI) vwCl (tysG cB cI cJ cZ) t ∧ va_D A (ws_X0_init cB cI cJ cZ a_this a_sets u.1 u.2.1 u.2.2.1 u.2.2.2.1 u.2.2.2.2.1 u.2.2.2.2.2.1 u.2.2.2.2.2.2)) A
theorem nd_X0_init : yX0_init.cls ≠ "java/lang/invoke/MethodHandle" ∧ yX0_init.cls ≠ "java/lang/invoke/VarHandle" ∧ (parseMethodDescriptor yX0_init.desc).map (fun d => d.parameters.length) = some 0 := by decide +kernel
set_option maxHeartbeats 4000000 in
set_option maxRecDepth 100000 in
theorem c_X0_init (l : Launch) (dC : Nat → ClassId) (dI : Nat → Nat → Nat) (cB cI cJ cZ : ClassId) (a_this : Nat) (sz : Nat)  (out : Int32 × Int32 × Int32 × Int32 × Int32 × Int32 × (Nat → Int32)) (hf : f_X0_init  = some out) : Met l yX0_init wsX0_init rm_X0_init (va_Pc [.ref a_this] (fun U => U.heap.size = sz ∧ va_P (dC, dI) vwCl [(a_this, .inr (1, [.null, .int 0, .int 0, .int 0, .int 0, .int 0, .int 0]))] U.heap ∧ va_K (dC, dI) vwCl (tysG cB cI cJ cZ) U ∧ va_D (fun _ => True) [(a_this, .inr (1, [.null, .int 0, .int 0, .int 0, .int 0, .int 0, .int 0]))])) (qc_X0_init (va_A [(a_this, .inr (1, [.null, .int 0, .int 0, .int 0, .int 0, .int 0, .int 0]))] sz) dC dI cB cI cJ cZ a_this out) 1 60 (va_A [(a_this, .inr (1, [.null, .int 0, .int 0, .int 0, .int 0, .int 0, .int 0]))] sz) := by
  refine Met.ofW (cc := cX0_init) (maxL := 1) (ret := none) (by decide) rfl ?_
  intro p e s m args below meth c s₁ B hml hv
  obtain ⟨rfl, hsz, hP, hK, hD0⟩ := hv
  subst hsz
  have hD := hD0.self (sz := s.heap.size)
  generalize hAe : va_A [(a_this, .inr (1, [.null, .int 0, .int 0, .int 0, .int 0, .int 0, .int 0]))] s.heap.size = A at hD ⊢
  have hA : ∀ q : Nat, s.heap.size ≤ q → A q := fun q h => by rw [← hAe]; exact Or.inr h
  have hl := lv_entry ([.ref a_this]) (n := 1) (Nat.le_of_ble_eq_true rfl)
  rw [lg_entry_eq]
  generalize (lg_sl ([.ref a_this]) ++ List.replicate (1 - (lg_sl ([.ref a_this])).length) Slot.unset).toArray = ls at hl ⊢
  have hl : lv_has ls 1 [(0, .ref a_this)] := hl
  have hin : meth.name = "<init>" := (name_of_methodNamed B.named B.method).1
  have C0 : Cx RX0 cX0_init none 1 wsX0_init p s m _ meth c A := ⟨B.exec, B.bytes, B.returns, hml, findClass_of_methodNamed B.named, atoms_spec (ws := wsX0_init) B.pre, B.notSynchronized, hA⟩
  obtain ⟨hx, hb, hr, hml, hown, hts, hlocks, hA⟩ := id C0
  have hS : va_S A s.heap s.heap [] := va_S.rf
  replace hf : ((some (0, 0, 0, 0, 0, 0, (fun _ => 0))) : Option (Int32 × Int32 × Int32 × Int32 × Int32 × Int32 × (Nat → Int32))) = some out := hf
  refine lv_aload_n hx hb dX0_init_0 rfl (lv_at hl 0 rfl) ?_
  refine W.objInit hx hb hown (hts (.methodLink RX0 3 objectInit) lk_X0_init_o3) (hts (.instanceMethod objectInit) lk_X0_init_oi) (hts (.code objectInit ⟨#[0xb1]⟩ 1 none) lk_X0_init_oc) rfl (by rw [hml]; exact hl.1) rfl dX0_init_1 (Nat.le_of_ble_eq_true rfl) (Nat.le_of_ble_eq_true rfl) ?_
  refine W.eq (g2 := F0 m 4 ls []) rfl ?_
  refine lv_aload_n hx hb dX0_init_4 rfl (lv_at hl 0 rfl) ?_
  refine lv_bipush (v := 60) hx hb dX0_init_5 (by decide) ?_
  refine va_newa (atype := .int) (n := (60 : Int32)) (ty := .int) (a0 := (60, .inl (fun _ => 0))) (N' := 60) hx hb (hts (.arrayClass .int) lk_X0_init_aI) rfl hK hP hD hS hA (fun _ => rfl) (by decide +kernel) (by decide +kernel) (by decide +kernel) (Nat.le_of_ble_eq_true rfl) (Nat.le_of_ble_eq_true rfl) dX0_init_7 (fun a_sets cA H hK9 hP hD hS => ?_)
  have h9 := nw_I hK9
  subst cA
  refine W.widen (k := 1) (n := 60) (by decide) (by decide) ?_
  have hP : va_P (dC, dI) vwCl ([(a_this, .inr (1, [.null, .int 0, .int 0, .int 0, .int 0, .int 0, .int 0])), (a_sets, .inl (cI, 60, .inl (fun _ => 0)))]) H := hP
  have hD : va_D A ([(a_this, .inr (1, [.null, .int 0, .int 0, .int 0, .int 0, .int 0, .int 0])), (a_sets, .inl (cI, 60, .inl (fun _ => 0)))]) := hD
  refine va_putF (D := (dC, dI)) (ci := 1) (v := .ref a_sets) (ty := .array .int) (C := RX0) (T := TX0) (N := 7) hx hb hts in_X0_init_X0 tyX0 tyX0_ok nmX0 hown hK hP hD hS 0 rfl rfl 0 (by decide) (hts (.fieldLink RX0 9 "LinkedCovers$Piece" "sets" "[I") lk_X0_init_f9) (fun _ h9 => h9) rfl hin rfl (by decide +kernel) rfl rfl (Nat.le_of_ble_eq_true rfl) dX0_init_9 (fun H locs hP hD hS => ?_)
  have hP : va_P (dC, dI) vwCl ([(a_this, .inr (1, [.ref a_sets, .int 0, .int 0, .int 0, .int 0, .int 0, .int 0])), (a_sets, .inl (cI, 60, .inl (fun _ => 0)))]) H := hP
  have hD : va_D A ([(a_this, .inr (1, [.ref a_sets, .int 0, .int 0, .int 0, .int 0, .int 0, .int 0])), (a_sets, .inl (cI, 60, .inl (fun _ => 0)))]) := hD
  refine W.widen (k := 1) (n := 60) (by decide) (by decide) ?_
  have hP : va_P (dC, dI) vwCl (ws_X0_init cB cI cJ cZ a_this a_sets 0 0 0 0 0 0 (fun _ => 0)) H := hP
  have hD : va_D A (ws_X0_init cB cI cJ cZ a_this a_sets 0 0 0 0 0 0 (fun _ => 0)) := hD
  exact W.vret hx hb hr (fun t ht hW => ⟨⟨(0, 0, 0, 0, 0, 0, (fun _ => 0)), rfl, Option.some.inj hf, a_sets, by rw [ht]; exact hP, va_K.moved hW.alike hK, hD⟩, hS.F ht⟩) hS.2.2 dX0_init_12
