-- X2.<init>(II)V: 41 instructions
theorem in_X2_init_X2 : ∀ w ∈ wsX20, w ∈ wsX2_init := by decide +kernel
abbrev ws_X2_init (cB cI cJ cZ : ClassId) (a_this a_columnsOf a_colours a_rowsOf a_clashesOf a_due : Nat) (v_columnCount : Int32) (v_neededCount : Int32) (v_rowCount : Int32) (v_columnsOf : (Nat → Int32)) (v_colours : (Nat → Int32)) (v_rowsOf : (Nat → Int64)) (v_clashesOf : (Nat → Int64)) (v_due : (Nat → Int32)) : va_W := [(a_this, .inr (3, [.int v_columnCount, .int v_neededCount, .ref a_due, .ref a_columnsOf, .ref a_colours, .ref a_rowsOf, .ref a_clashesOf, .int v_rowCount])), (a_columnsOf, .inl (cI, 60, .inl v_columnsOf)), (a_colours, .inl (cB, 1440, .inl v_colours)), (a_rowsOf, .inl (cJ, 24, .inr (.inl v_rowsOf))), (a_clashesOf, .inl (cJ, 60, .inr (.inl v_clashesOf))), (a_due, .inl (cI, 24, .inl v_due))]
abbrev rm_X2_init : Room := { frames := 1, cells := 5, slots := 1608, locals := 12 }
theorem lk_X2_init_f33 : Cond.fieldLink RX2 33 "LinkedCovers$Table" "due" "[I" ∈ wsX2_init := by decide +kernel
theorem lk_X2_init_o3 : Cond.methodLink RX2 3 objectInit ∈ wsX2_init := by decide +kernel
theorem lk_X2_init_oi : Cond.instanceMethod objectInit ∈ wsX2_init := by decide +kernel
theorem lk_X2_init_oc : Cond.code objectInit ⟨#[0xb1]⟩ 1 none ∈ wsX2_init := by decide +kernel
theorem lk_X2_init_aI : Cond.arrayClass .int ∈ wsX2_init := by decide +kernel
theorem lk_X2_init_f9 : Cond.fieldLink RX2 9 "LinkedCovers$Table" "columnsOf" "[I" ∈ wsX2_init := by decide +kernel
theorem lk_X2_init_aB : Cond.arrayClass .byte ∈ wsX2_init := by decide +kernel
theorem lk_X2_init_f15 : Cond.fieldLink RX2 15 "LinkedCovers$Table" "colours" "[B" ∈ wsX2_init := by decide +kernel
theorem lk_X2_init_aJ : Cond.arrayClass .long ∈ wsX2_init := by decide +kernel
theorem lk_X2_init_f19 : Cond.fieldLink RX2 19 "LinkedCovers$Table" "rowsOf" "[J" ∈ wsX2_init := by decide +kernel
theorem lk_X2_init_f23 : Cond.fieldLink RX2 23 "LinkedCovers$Table" "clashesOf" "[J" ∈ wsX2_init := by decide +kernel
theorem lk_X2_init_f26 : Cond.fieldLink RX2 26 "LinkedCovers$Table" "columnCount" "I" ∈ wsX2_init := by decide +kernel
theorem lk_X2_init_f30 : Cond.fieldLink RX2 30 "LinkedCovers$Table" "neededCount" "I" ∈ wsX2_init := by decide +kernel
def f_X2_init_57   : Nat → Int32 → Int32 → Int32 → (Nat → Int32) → (Nat → Int32) → (Nat → Int64) → (Nat → Int64) → (Nat → Int32) → Int32 → Int32 → Option (Int32 × Int32 × Int32 × (Nat → Int32) × (Nat → Int32) × (Nat → Int64) × (Nat → Int64) × (Nat → Int32))
  | 0 => fun _ _ _ _ _ _ _ _ _ _ => none
  | n + 1 => fun v_columnCount v_neededCount v_rowCount v_columnsOf v_colours v_rowsOf v_clashesOf v_due x2 x3 => if x2 ≤ x3 then
  (some (v_columnCount, v_neededCount, v_rowCount, v_columnsOf, v_colours, v_rowsOf, v_clashesOf, v_due))
  else
  (if (x3 < 0 ∨ 24 ≤ Int32.toNatClampNeg x3) then none else
  f_X2_init_57 n v_columnCount v_neededCount v_rowCount v_columnsOf v_colours v_rowsOf v_clashesOf (upd v_due (Int32.toNatClampNeg x3) (1 : Int32)) x2 (x3 + 1))
def f_X2_init (x1 : Int32) (x2 : Int32) : Option (Int32 × Int32 × Int32 × (Nat → Int32) × (Nat → Int32) × (Nat → Int64) × (Nat → Int64) × (Nat → Int32)) :=
  f_X2_init_57 1000000 x1 x2 0 (fun _ => 0) (fun _ => 0) (fun _ => 0) (fun _ => 0) (fun _ => 0) x2 (0 : Int32)
abbrev qc_X2_init (A : Nat → Prop) (dC : Nat → ClassId) (dI : Nat → Nat → Nat) (cB cI cJ cZ : ClassId) (a_this : Nat)  (out : Int32 × Int32 × Int32 × (Nat → Int32) × (Nat → Int32) × (Nat → Int64) × (Nat → Int64) × (Nat → Int32)) : Array Value → State → Outcome → State → Prop := va_Qv (fun u : Int32 × Int32 × Int32 × (Nat → Int32) × (Nat → Int32) × (Nat → Int64) × (Nat → Int64) × (Nat → Int32) => u = out) (fun (u : Int32 × Int32 × Int32 × (Nat → Int32) × (Nat → Int32) × (Nat → Int64) × (Nat → Int64) × (Nat → Int32)) (t : State) => ∃ (a_columnsOf a_colours a_rowsOf a_clashesOf a_due : Nat), va_P (dC, dI) vwCl (ws_X2_init cB cI cJ cZ a_this a_columnsOf a_colours a_rowsOf a_clashesOf a_due u.1 u.2.1 u.2.2.1 u.2.2.2.1 u.2.2.2.2.1 u.2.2.2.2.2.1 u.2.2.2.2.2.2.1 u.2.2.2.2.2.2.2) t.heap ∧ va_K (dC, dI) vwCl (tysG cB cI cJ cZ) t ∧ va_D A (ws_X2_init cB cI cJ cZ a_this a_columnsOf a_colours a_rowsOf a_clashesOf a_due u.1 u.2.1 u.2.2.1 u.2.2.2.1 u.2.2.2.2.1 u.2.2.2.2.2.1 u.2.2.2.2.2.2.1 u.2.2.2.2.2.2.2)) A
abbrev g_X2_init_57 (p : Program) (l : Launch) (e : Env) (s : State) (m : MethodId) (args : Array Value) (below : List Frame) (meth : Method) (c : Code) (A : Nat → Prop) (dC : Nat → ClassId) (dI : Nat → Nat → Nat) (cB cI cJ cZ : ClassId) (a_this a_columnsOf a_colours a_rowsOf a_clashesOf a_due : Nat)  (out : Int32 × Int32 × Int32 × (Nat → Int32) × (Nat → Int32) × (Nat → Int64) × (Nat → Int64) × (Nat → Int32)) (k : Int32 → Int32 → Int32 → (Nat → Int32) → (Nat → Int32) → (Nat → Int64) → (Nat → Int64) → (Nat → Int32) → Int32 → Int32 → Option (Int32 × Int32 × Int32 × (Nat → Int32) × (Nat → Int32) × (Nat → Int64) × (Nat → Int64) × (Nat → Int32))) : Prop := ∀ (v_columnCount : Int32) (v_neededCount : Int32) (v_rowCount : Int32) (v_columnsOf : (Nat → Int32)) (v_colours : (Nat → Int32)) (v_rowsOf : (Nat → Int64)) (v_clashesOf : (Nat → Int64)) (v_due : (Nat → Int32)) (x2 : Int32) (x3 : Int32), k v_columnCount v_neededCount v_rowCount v_columnsOf v_colours v_rowsOf v_clashesOf v_due x2 x3 = some out → ∀ (H : Heap) (locs : List Loc), va_P (dC, dI) vwCl (ws_X2_init cB cI cJ cZ a_this a_columnsOf a_colours a_rowsOf a_clashesOf a_due v_columnCount v_neededCount v_rowCount v_columnsOf v_colours v_rowsOf v_clashesOf v_due) H → va_D A (ws_X2_init cB cI cJ cZ a_this a_columnsOf a_colours a_rowsOf a_clashesOf a_due v_columnCount v_neededCount v_rowCount v_columnsOf v_colours v_rowsOf v_clashesOf v_due) → va_S A s.heap H locs → ∀ (ls : Array Slot), lv_has ls 4 [(0, .ref a_this), (2, .int x2), (3, .int x3)] → W p l e (headSpec wsX2_init rm_X2_init).room s m args below meth c H locs 5 1608 (MQ below (qc_X2_init A dC dI cB cI cJ cZ a_this  out) args s 5 1608 A) (F0 m 57 ls [])
set_option maxHeartbeats 4000000 in
set_option maxRecDepth 100000 in
theorem w_X2_init_57 {p : Program} {l : Launch} {e : Env} {s : State} {m : MethodId} {args : Array Value} {below : List Frame} {meth : Method} {c : Code} {A : Nat → Prop} {dC : Nat → ClassId} {dI : Nat → Nat → Nat} {cB cI cJ cZ : ClassId} {a_this a_columnsOf a_colours a_rowsOf a_clashesOf a_due : Nat}  {out : Int32 × Int32 × Int32 × (Nat → Int32) × (Nat → Int32) × (Nat → Int64) × (Nat → Int64) × (Nat → Int32)} (C0 : Cx RX2 cX2_init none 4 wsX2_init p s m args meth c A) (hK : va_K (dC, dI) vwCl (tysG cB cI cJ cZ) s) (hin : meth.name = "<init>")  : ∀ n : Nat, g_X2_init_57 p l e s m args below meth c A dC dI cB cI cJ cZ a_this a_columnsOf a_colours a_rowsOf a_clashesOf a_due  out (f_X2_init_57   n) := by
  obtain ⟨hx, hb, hr, hml, hown, hts, hlocks, hA⟩ := id C0
  intro n
  induction n with
  | zero =>
    intro v_columnCount v_neededCount v_rowCount v_columnsOf v_colours v_rowsOf v_clashesOf v_due x2 x3 hf H locs hP hD hS ls hl
    exact nomatch (show (none : Option (Int32 × Int32 × Int32 × (Nat → Int32) × (Nat → Int32) × (Nat → Int64) × (Nat → Int64) × (Nat → Int32))) = some out from hf)
  | succ n ih =>
    intro v_columnCount v_neededCount v_rowCount v_columnsOf v_colours v_rowsOf v_clashesOf v_due x2 x3 hf H locs hP hD hS ls hl
    replace hf : ((if x2 ≤ x3 then
  (some (v_columnCount, v_neededCount, v_rowCount, v_columnsOf, v_colours, v_rowsOf, v_clashesOf, v_due))
  else
  (if (x3 < 0 ∨ 24 ≤ Int32.toNatClampNeg x3) then none else
  f_X2_init_57 n v_columnCount v_neededCount v_rowCount v_columnsOf v_colours v_rowsOf v_clashesOf (upd v_due (Int32.toNatClampNeg x3) (1 : Int32)) x2 (x3 + 1))) : Option (Int32 × Int32 × Int32 × (Nat → Int32) × (Nat → Int32) × (Nat → Int64) × (Nat → Int64) × (Nat → Int32))) = some out := hf
    refine lv_iload_n hx hb dX2_init_57 rfl (lv_at hl 2 rfl) ?_
    refine lv_iload_n hx hb dX2_init_58 rfl (lv_at hl 1 rfl) ?_
    refine lv_icmp_ge (tgt := 75) hx hb dX2_init_59 (by decide) (fun c_1 => ?_) (fun c_1 => ?_)
    · replace hf := (if_pos c_1).symm.trans hf
      exact W.vret hx hb hr (fun t ht hW => ⟨⟨(v_columnCount, v_neededCount, v_rowCount, v_columnsOf, v_colours, v_rowsOf, v_clashesOf, v_due), rfl, Option.some.inj hf, a_columnsOf, a_colours, a_rowsOf, a_clashesOf, a_due, by rw [ht]; exact hP, va_K.moved hW.alike hK, hD⟩, hS.F ht⟩) hS.2.2 dX2_init_75
    · replace hf := (if_neg c_1).symm.trans hf
      refine lv_aload_n hx hb dX2_init_62 rfl (lv_at hl 0 rfl) ?_
      refine va_get (D := (dC, dI)) (ci := 3) (v := .ref a_due) (C := RX2) (T := TX2) (N := 8) hx hb hts in_X2_init_X2 hown hK hP 0 rfl rfl 2 (by decide) (hts (.fieldLink RX2 33 "LinkedCovers$Table" "due" "[I") lk_X2_init_f33) (fun _ h9 => h9) rfl dX2_init_63 ?_
      refine lv_iload_n hx hb dX2_init_66 rfl (lv_at hl 2 rfl) ?_
      refine lv_iconst (v := 1) hx hb dX2_init_67 (by decide) ?_
      obtain ⟨h_2, hf⟩ := gd_ck hf
      refine va_iast hx hb hK hP hD hS 5 1 rfl rfl h_2 dX2_init_68 (fun H locs hP hD hS => ?_)
      have hP : va_P (dC, dI) vwCl (ws_X2_init cB cI cJ cZ a_this a_columnsOf a_colours a_rowsOf a_clashesOf a_due v_columnCount v_neededCount v_rowCount v_columnsOf v_colours v_rowsOf v_clashesOf (upd v_due (Int32.toNatClampNeg x3) (1 : Int32))) H := hP
      have hD : va_D A (ws_X2_init cB cI cJ cZ a_this a_columnsOf a_colours a_rowsOf a_clashesOf a_due v_columnCount v_neededCount v_rowCount v_columnsOf v_colours v_rowsOf v_clashesOf (upd v_due (Int32.toNatClampNeg x3) (1 : Int32))) := hD
      refine lv_iinc (v := (x3 + 1)) (lv' := [(3, .int (x3 + 1)), (0, .ref a_this), (2, .int x2)]) hx hb dX2_init_69 hl (k := 2) rfl rfl (by decide) rfl (fun ls hl => ?_)
      refine lv_goto (tgt := 57) hx hb dX2_init_72 (by decide) ?_
      refine W.widen (k := 5) (n := 1608) (by decide) (by decide) ?_
      have hP : va_P (dC, dI) vwCl (ws_X2_init cB cI cJ cZ a_this a_columnsOf a_colours a_rowsOf a_clashesOf a_due v_columnCount v_neededCount v_rowCount v_columnsOf v_colours v_rowsOf v_clashesOf (upd v_due (Int32.toNatClampNeg x3) (1 : Int32))) H := hP
      have hD : va_D A (ws_X2_init cB cI cJ cZ a_this a_columnsOf a_colours a_rowsOf a_clashesOf a_due v_columnCount v_neededCount v_rowCount v_columnsOf v_colours v_rowsOf v_clashesOf (upd v_due (Int32.toNatClampNeg x3) (1 : Int32))) := hD
      exact ih v_columnCount v_neededCount v_rowCount v_columnsOf v_colours v_rowsOf v_clashesOf (upd v_due (Int32.toNatClampNeg x3) (1 : Int32)) x2 (x3 + 1) hf _ _ hP hD hS ls (lv_sub hl [1, 2, 0] rfl)
theorem nd_X2_init : yX2_init.cls ≠ "java/lang/invoke/MethodHandle" ∧ yX2_init.cls ≠ "java/lang/invoke/VarHandle" ∧ (parseMethodDescriptor yX2_init.desc).map (fun d => d.parameters.length) = some 2 := by decide +kernel
set_option maxHeartbeats 4000000 in
set_option maxRecDepth 100000 in
theorem c_X2_init (l : Launch) (dC : Nat → ClassId) (dI : Nat → Nat → Nat) (cB cI cJ cZ : ClassId) (a_this : Nat) (sz : Nat) (x1 : Int32) (x2 : Int32) (out : Int32 × Int32 × Int32 × (Nat → Int32) × (Nat → Int32) × (Nat → Int64) × (Nat → Int64) × (Nat → Int32)) (hf : f_X2_init x1 x2 = some out) : Met l yX2_init wsX2_init rm_X2_init (va_Pc [.ref a_this, .int x1, .int x2] (fun U => U.heap.size = sz ∧ va_P (dC, dI) vwCl [(a_this, .inr (3, [.int 0, .int 0, .null, .null, .null, .null, .null, .int 0]))] U.heap ∧ va_K (dC, dI) vwCl (tysG cB cI cJ cZ) U ∧ va_D (fun _ => True) [(a_this, .inr (3, [.int 0, .int 0, .null, .null, .null, .null, .null, .int 0]))])) (qc_X2_init (va_A [(a_this, .inr (3, [.int 0, .int 0, .null, .null, .null, .null, .null, .int 0]))] sz) dC dI cB cI cJ cZ a_this out) 5 1608 (va_A [(a_this, .inr (3, [.int 0, .int 0, .null, .null, .null, .null, .null, .int 0]))] sz) := by
  refine Met.ofW (cc := cX2_init) (maxL := 4) (ret := none) (by decide) rfl ?_
  intro p e s m args below meth c s₁ B hml hv
  obtain ⟨rfl, hsz, hP, hK, hD0⟩ := hv
  subst hsz
  have hD := hD0.self (sz := s.heap.size)
  generalize hAe : va_A [(a_this, .inr (3, [.int 0, .int 0, .null, .null, .null, .null, .null, .int 0]))] s.heap.size = A at hD ⊢
  have hA : ∀ q : Nat, s.heap.size ≤ q → A q := fun q h => by rw [← hAe]; exact Or.inr h
  have hl := lv_entry ([.ref a_this, .int x1, .int x2]) (n := 4) (Nat.le_of_ble_eq_true rfl)
  rw [lg_entry_eq]
  generalize (lg_sl ([.ref a_this, .int x1, .int x2]) ++ List.replicate (4 - (lg_sl ([.ref a_this, .int x1, .int x2])).length) Slot.unset).toArray = ls at hl ⊢
  have hl : lv_has ls 4 [(0, .ref a_this), (1, .int x1), (2, .int x2)] := hl
  have hin : meth.name = "<init>" := (name_of_methodNamed B.named B.method).1
  have C0 : Cx RX2 cX2_init none 4 wsX2_init p s m _ meth c A := ⟨B.exec, B.bytes, B.returns, hml, findClass_of_methodNamed B.named, atoms_spec (ws := wsX2_init) B.pre, B.notSynchronized, hA⟩
  obtain ⟨hx, hb, hr, hml, hown, hts, hlocks, hA⟩ := id C0
  have hS : va_S A s.heap s.heap [] := va_S.rf
  replace hf : ((f_X2_init_57 1000000 x1 x2 0 (fun _ => 0) (fun _ => 0) (fun _ => 0) (fun _ => 0) (fun _ => 0) x2 (0 : Int32)) : Option (Int32 × Int32 × Int32 × (Nat → Int32) × (Nat → Int32) × (Nat → Int64) × (Nat → Int64) × (Nat → Int32))) = some out := hf
  refine lv_aload_n hx hb dX2_init_0 rfl (lv_at hl 0 rfl) ?_
  refine W.objInit hx hb hown (hts (.methodLink RX2 3 objectInit) lk_X2_init_o3) (hts (.instanceMethod objectInit) lk_X2_init_oi) (hts (.code objectInit ⟨#[0xb1]⟩ 1 none) lk_X2_init_oc) rfl (by rw [hml]; exact hl.1) rfl dX2_init_1 (Nat.le_of_ble_eq_true rfl) (Nat.le_of_ble_eq_true rfl) ?_
  refine W.eq (g2 := F0 m 4 ls []) rfl ?_
  refine lv_aload_n hx hb dX2_init_4 rfl (lv_at hl 0 rfl) ?_
  refine lv_bipush (v := 60) hx hb dX2_init_5 (by decide) ?_
  refine va_newa (atype := .int) (n := (60 : Int32)) (ty := .int) (a0 := (60, .inl (fun _ => 0))) (N' := 60) hx hb (hts (.arrayClass .int) lk_X2_init_aI) rfl hK hP hD hS hA (fun _ => rfl) (by decide +kernel) (by decide +kernel) (by decide +kernel) (Nat.le_of_ble_eq_true rfl) (Nat.le_of_ble_eq_true rfl) dX2_init_7 (fun a_columnsOf cA H hK9 hP hD hS => ?_)
  have h9 := nw_I hK9
  subst cA
  refine W.widen (k := 1) (n := 60) (by decide) (by decide) ?_
  have hP : va_P (dC, dI) vwCl ([(a_this, .inr (3, [.int 0, .int 0, .null, .null, .null, .null, .null, .int 0])), (a_columnsOf, .inl (cI, 60, .inl (fun _ => 0)))]) H := hP
  have hD : va_D A ([(a_this, .inr (3, [.int 0, .int 0, .null, .null, .null, .null, .null, .int 0])), (a_columnsOf, .inl (cI, 60, .inl (fun _ => 0)))]) := hD
  refine va_putF (D := (dC, dI)) (ci := 3) (v := .ref a_columnsOf) (ty := .array .int) (C := RX2) (T := TX2) (N := 8) hx hb hts in_X2_init_X2 tyX2 tyX2_ok nmX2 hown hK hP hD hS 0 rfl rfl 3 (by decide) (hts (.fieldLink RX2 9 "LinkedCovers$Table" "columnsOf" "[I") lk_X2_init_f9) (fun _ h9 => h9) rfl hin rfl (by decide +kernel) rfl rfl (Nat.le_of_ble_eq_true rfl) dX2_init_9 (fun H locs hP hD hS => ?_)
  have hP : va_P (dC, dI) vwCl ([(a_this, .inr (3, [.int 0, .int 0, .null, .ref a_columnsOf, .null, .null, .null, .int 0])), (a_columnsOf, .inl (cI, 60, .inl (fun _ => 0)))]) H := hP
  have hD : va_D A ([(a_this, .inr (3, [.int 0, .int 0, .null, .ref a_columnsOf, .null, .null, .null, .int 0])), (a_columnsOf, .inl (cI, 60, .inl (fun _ => 0)))]) := hD
  refine lv_aload_n hx hb dX2_init_12 rfl (lv_at hl 0 rfl) ?_
  refine lv_sipush (v := 1440) hx hb dX2_init_13 (by decide) ?_
  refine va_newa (atype := .byte) (n := (1440 : Int32)) (ty := .byte) (a0 := (1440, .inl (fun _ => 0))) (N' := 1440) hx hb (hts (.arrayClass .byte) lk_X2_init_aB) rfl hK hP hD hS hA (fun _ => rfl) (by decide +kernel) (by decide +kernel) (by decide +kernel) (Nat.le_of_ble_eq_true rfl) (Nat.le_of_ble_eq_true rfl) dX2_init_16 (fun a_colours cA H hK9 hP hD hS => ?_)
  have h9 := nw_B hK9
  subst cA
  refine W.widen (k := 2) (n := 1500) (by decide) (by decide) ?_
  have hP : va_P (dC, dI) vwCl ([(a_this, .inr (3, [.int 0, .int 0, .null, .ref a_columnsOf, .null, .null, .null, .int 0])), (a_columnsOf, .inl (cI, 60, .inl (fun _ => 0))), (a_colours, .inl (cB, 1440, .inl (fun _ => 0)))]) H := hP
  have hD : va_D A ([(a_this, .inr (3, [.int 0, .int 0, .null, .ref a_columnsOf, .null, .null, .null, .int 0])), (a_columnsOf, .inl (cI, 60, .inl (fun _ => 0))), (a_colours, .inl (cB, 1440, .inl (fun _ => 0)))]) := hD
  refine va_putF (D := (dC, dI)) (ci := 3) (v := .ref a_colours) (ty := .array .byte) (C := RX2) (T := TX2) (N := 8) hx hb hts in_X2_init_X2 tyX2 tyX2_ok nmX2 hown hK hP hD hS 0 rfl rfl 4 (by decide) (hts (.fieldLink RX2 15 "LinkedCovers$Table" "colours" "[B") lk_X2_init_f15) (fun _ h9 => h9) rfl hin rfl (by decide +kernel) rfl rfl (Nat.le_of_ble_eq_true rfl) dX2_init_18 (fun H locs hP hD hS => ?_)
  have hP : va_P (dC, dI) vwCl ([(a_this, .inr (3, [.int 0, .int 0, .null, .ref a_columnsOf, .ref a_colours, .null, .null, .int 0])), (a_columnsOf, .inl (cI, 60, .inl (fun _ => 0))), (a_colours, .inl (cB, 1440, .inl (fun _ => 0)))]) H := hP
  have hD : va_D A ([(a_this, .inr (3, [.int 0, .int 0, .null, .ref a_columnsOf, .ref a_colours, .null, .null, .int 0])), (a_columnsOf, .inl (cI, 60, .inl (fun _ => 0))), (a_colours, .inl (cB, 1440, .inl (fun _ => 0)))]) := hD
  refine lv_aload_n hx hb dX2_init_21 rfl (lv_at hl 0 rfl) ?_
  refine lv_bipush (v := 24) hx hb dX2_init_22 (by decide) ?_
  refine va_newa (atype := .long) (n := (24 : Int32)) (ty := .long) (a0 := (24, .inr (.inl (fun _ => 0)))) (N' := 24) hx hb (hts (.arrayClass .long) lk_X2_init_aJ) rfl hK hP hD hS hA (fun _ => rfl) (by decide +kernel) (by decide +kernel) (by decide +kernel) (Nat.le_of_ble_eq_true rfl) (Nat.le_of_ble_eq_true rfl) dX2_init_24 (fun a_rowsOf cA H hK9 hP hD hS => ?_)
  have h9 := nw_J hK9
  subst cA
  refine W.widen (k := 3) (n := 1524) (by decide) (by decide) ?_
  have hP : va_P (dC, dI) vwCl ([(a_this, .inr (3, [.int 0, .int 0, .null, .ref a_columnsOf, .ref a_colours, .null, .null, .int 0])), (a_columnsOf, .inl (cI, 60, .inl (fun _ => 0))), (a_colours, .inl (cB, 1440, .inl (fun _ => 0))), (a_rowsOf, .inl (cJ, 24, .inr (.inl (fun _ => 0))))]) H := hP
  have hD : va_D A ([(a_this, .inr (3, [.int 0, .int 0, .null, .ref a_columnsOf, .ref a_colours, .null, .null, .int 0])), (a_columnsOf, .inl (cI, 60, .inl (fun _ => 0))), (a_colours, .inl (cB, 1440, .inl (fun _ => 0))), (a_rowsOf, .inl (cJ, 24, .inr (.inl (fun _ => 0))))]) := hD
  refine va_putF (D := (dC, dI)) (ci := 3) (v := .ref a_rowsOf) (ty := .array .long) (C := RX2) (T := TX2) (N := 8) hx hb hts in_X2_init_X2 tyX2 tyX2_ok nmX2 hown hK hP hD hS 0 rfl rfl 5 (by decide) (hts (.fieldLink RX2 19 "LinkedCovers$Table" "rowsOf" "[J") lk_X2_init_f19) (fun _ h9 => h9) rfl hin rfl (by decide +kernel) rfl rfl (Nat.le_of_ble_eq_true rfl) dX2_init_26 (fun H locs hP hD hS => ?_)
  have hP : va_P (dC, dI) vwCl ([(a_this, .inr (3, [.int 0, .int 0, .null, .ref a_columnsOf, .ref a_colours, .ref a_rowsOf, .null, .int 0])), (a_columnsOf, .inl (cI, 60, .inl (fun _ => 0))), (a_colours, .inl (cB, 1440, .inl (fun _ => 0))), (a_rowsOf, .inl (cJ, 24, .inr (.inl (fun _ => 0))))]) H := hP
  have hD : va_D A ([(a_this, .inr (3, [.int 0, .int 0, .null, .ref a_columnsOf, .ref a_colours, .ref a_rowsOf, .null, .int 0])), (a_columnsOf, .inl (cI, 60, .inl (fun _ => 0))), (a_colours, .inl (cB, 1440, .inl (fun _ => 0))), (a_rowsOf, .inl (cJ, 24, .inr (.inl (fun _ => 0))))]) := hD
  refine lv_aload_n hx hb dX2_init_29 rfl (lv_at hl 0 rfl) ?_
  refine lv_bipush (v := 60) hx hb dX2_init_30 (by decide) ?_
  refine va_newa (atype := .long) (n := (60 : Int32)) (ty := .long) (a0 := (60, .inr (.inl (fun _ => 0)))) (N' := 60) hx hb (hts (.arrayClass .long) lk_X2_init_aJ) rfl hK hP hD hS hA (fun _ => rfl) (by decide +kernel) (by decide +kernel) (by decide +kernel) (Nat.le_of_ble_eq_true rfl) (Nat.le_of_ble_eq_true rfl) dX2_init_32 (fun a_clashesOf cA H hK9 hP hD hS => ?_)
  have h9 := nw_J hK9
  subst cA
  refine W.widen (k := 4) (n := 1584) (by decide) (by decide) ?_
  have hP : va_P (dC, dI) vwCl ([(a_this, .inr (3, [.int 0, .int 0, .null, .ref a_columnsOf, .ref a_colours, .ref a_rowsOf, .null, .int 0])), (a_columnsOf, .inl (cI, 60, .inl (fun _ => 0))), (a_colours, .inl (cB, 1440, .inl (fun _ => 0))), (a_rowsOf, .inl (cJ, 24, .inr (.inl (fun _ => 0)))), (a_clashesOf, .inl (cJ, 60, .inr (.inl (fun _ => 0))))]) H := hP
  have hD : va_D A ([(a_this, .inr (3, [.int 0, .int 0, .null, .ref a_columnsOf, .ref a_colours, .ref a_rowsOf, .null, .int 0])), (a_columnsOf, .inl (cI, 60, .inl (fun _ => 0))), (a_colours, .inl (cB, 1440, .inl (fun _ => 0))), (a_rowsOf, .inl (cJ, 24, .inr (.inl (fun _ => 0)))), (a_clashesOf, .inl (cJ, 60, .inr (.inl (fun _ => 0))))]) := hD
  refine va_putF (D := (dC, dI)) (ci := 3) (v := .ref a_clashesOf) (ty := .array .long) (C := RX2) (T := TX2) (N := 8) hx hb hts in_X2_init_X2 tyX2 tyX2_ok nmX2 hown hK hP hD hS 0 rfl rfl 6 (by decide) (hts (.fieldLink RX2 23 "LinkedCovers$Table" "clashesOf" "[J") lk_X2_init_f23) (fun _ h9 => h9) rfl hin rfl (by decide +kernel) rfl rfl (Nat.le_of_ble_eq_true rfl) dX2_init_34 (fun H locs hP hD hS => ?_)
  have hP : va_P (dC, dI) vwCl ([(a_this, .inr (3, [.int 0, .int 0, .null, .ref a_columnsOf, .ref a_colours, .ref a_rowsOf, .ref a_clashesOf, .int 0])), (a_columnsOf, .inl (cI, 60, .inl (fun _ => 0))), (a_colours, .inl (cB, 1440, .inl (fun _ => 0))), (a_rowsOf, .inl (cJ, 24, .inr (.inl (fun _ => 0)))), (a_clashesOf, .inl (cJ, 60, .inr (.inl (fun _ => 0))))]) H := hP
  have hD : va_D A ([(a_this, .inr (3, [.int 0, .int 0, .null, .ref a_columnsOf, .ref a_colours, .ref a_rowsOf, .ref a_clashesOf, .int 0])), (a_columnsOf, .inl (cI, 60, .inl (fun _ => 0))), (a_colours, .inl (cB, 1440, .inl (fun _ => 0))), (a_rowsOf, .inl (cJ, 24, .inr (.inl (fun _ => 0)))), (a_clashesOf, .inl (cJ, 60, .inr (.inl (fun _ => 0))))]) := hD
  refine lv_aload_n hx hb dX2_init_37 rfl (lv_at hl 0 rfl) ?_
  refine lv_iload_n hx hb dX2_init_38 rfl (lv_at hl 1 rfl) ?_
  refine va_putF (D := (dC, dI)) (ci := 3) (v := .int x1) (ty := .int) (C := RX2) (T := TX2) (N := 8) hx hb hts in_X2_init_X2 tyX2 tyX2_ok nmX2 hown hK hP hD hS 0 rfl rfl 0 (by decide) (hts (.fieldLink RX2 26 "LinkedCovers$Table" "columnCount" "I") lk_X2_init_f26) (fun _ h9 => h9) rfl hin rfl (by decide +kernel) rfl rfl (Nat.le_of_ble_eq_true rfl) dX2_init_39 (fun H locs hP hD hS => ?_)
  have hP : va_P (dC, dI) vwCl ([(a_this, .inr (3, [.int x1, .int 0, .null, .ref a_columnsOf, .ref a_colours, .ref a_rowsOf, .ref a_clashesOf, .int 0])), (a_columnsOf, .inl (cI, 60, .inl (fun _ => 0))), (a_colours, .inl (cB, 1440, .inl (fun _ => 0))), (a_rowsOf, .inl (cJ, 24, .inr (.inl (fun _ => 0)))), (a_clashesOf, .inl (cJ, 60, .inr (.inl (fun _ => 0))))]) H := hP
  have hD : va_D A ([(a_this, .inr (3, [.int x1, .int 0, .null, .ref a_columnsOf, .ref a_colours, .ref a_rowsOf, .ref a_clashesOf, .int 0])), (a_columnsOf, .inl (cI, 60, .inl (fun _ => 0))), (a_colours, .inl (cB, 1440, .inl (fun _ => 0))), (a_rowsOf, .inl (cJ, 24, .inr (.inl (fun _ => 0)))), (a_clashesOf, .inl (cJ, 60, .inr (.inl (fun _ => 0))))]) := hD
  refine lv_aload_n hx hb dX2_init_42 rfl (lv_at hl 0 rfl) ?_
  refine lv_iload_n hx hb dX2_init_43 rfl (lv_at hl 2 rfl) ?_
  refine va_putF (D := (dC, dI)) (ci := 3) (v := .int x2) (ty := .int) (C := RX2) (T := TX2) (N := 8) hx hb hts in_X2_init_X2 tyX2 tyX2_ok nmX2 hown hK hP hD hS 0 rfl rfl 1 (by decide) (hts (.fieldLink RX2 30 "LinkedCovers$Table" "neededCount" "I") lk_X2_init_f30) (fun _ h9 => h9) rfl hin rfl (by decide +kernel) rfl rfl (Nat.le_of_ble_eq_true rfl) dX2_init_44 (fun H locs hP hD hS => ?_)
  have hP : va_P (dC, dI) vwCl ([(a_this, .inr (3, [.int x1, .int x2, .null, .ref a_columnsOf, .ref a_colours, .ref a_rowsOf, .ref a_clashesOf, .int 0])), (a_columnsOf, .inl (cI, 60, .inl (fun _ => 0))), (a_colours, .inl (cB, 1440, .inl (fun _ => 0))), (a_rowsOf, .inl (cJ, 24, .inr (.inl (fun _ => 0)))), (a_clashesOf, .inl (cJ, 60, .inr (.inl (fun _ => 0))))]) H := hP
  have hD : va_D A ([(a_this, .inr (3, [.int x1, .int x2, .null, .ref a_columnsOf, .ref a_colours, .ref a_rowsOf, .ref a_clashesOf, .int 0])), (a_columnsOf, .inl (cI, 60, .inl (fun _ => 0))), (a_colours, .inl (cB, 1440, .inl (fun _ => 0))), (a_rowsOf, .inl (cJ, 24, .inr (.inl (fun _ => 0)))), (a_clashesOf, .inl (cJ, 60, .inr (.inl (fun _ => 0))))]) := hD
  refine lv_aload_n hx hb dX2_init_47 rfl (lv_at hl 0 rfl) ?_
  refine lv_bipush (v := 24) hx hb dX2_init_48 (by decide) ?_
  refine va_newa (atype := .int) (n := (24 : Int32)) (ty := .int) (a0 := (24, .inl (fun _ => 0))) (N' := 24) hx hb (hts (.arrayClass .int) lk_X2_init_aI) rfl hK hP hD hS hA (fun _ => rfl) (by decide +kernel) (by decide +kernel) (by decide +kernel) (Nat.le_of_ble_eq_true rfl) (Nat.le_of_ble_eq_true rfl) dX2_init_50 (fun a_due cA H hK9 hP hD hS => ?_)
  have h9 := nw_I hK9
  subst cA
  refine W.widen (k := 5) (n := 1608) (by decide) (by decide) ?_
  have hP : va_P (dC, dI) vwCl ([(a_this, .inr (3, [.int x1, .int x2, .null, .ref a_columnsOf, .ref a_colours, .ref a_rowsOf, .ref a_clashesOf, .int 0])), (a_columnsOf, .inl (cI, 60, .inl (fun _ => 0))), (a_colours, .inl (cB, 1440, .inl (fun _ => 0))), (a_rowsOf, .inl (cJ, 24, .inr (.inl (fun _ => 0)))), (a_clashesOf, .inl (cJ, 60, .inr (.inl (fun _ => 0)))), (a_due, .inl (cI, 24, .inl (fun _ => 0)))]) H := hP
  have hD : va_D A ([(a_this, .inr (3, [.int x1, .int x2, .null, .ref a_columnsOf, .ref a_colours, .ref a_rowsOf, .ref a_clashesOf, .int 0])), (a_columnsOf, .inl (cI, 60, .inl (fun _ => 0))), (a_colours, .inl (cB, 1440, .inl (fun _ => 0))), (a_rowsOf, .inl (cJ, 24, .inr (.inl (fun _ => 0)))), (a_clashesOf, .inl (cJ, 60, .inr (.inl (fun _ => 0)))), (a_due, .inl (cI, 24, .inl (fun _ => 0)))]) := hD
  refine va_putF (D := (dC, dI)) (ci := 3) (v := .ref a_due) (ty := .array .int) (C := RX2) (T := TX2) (N := 8) hx hb hts in_X2_init_X2 tyX2 tyX2_ok nmX2 hown hK hP hD hS 0 rfl rfl 2 (by decide) (hts (.fieldLink RX2 33 "LinkedCovers$Table" "due" "[I") lk_X2_init_f33) (fun _ h9 => h9) rfl hin rfl (by decide +kernel) rfl rfl (Nat.le_of_ble_eq_true rfl) dX2_init_52 (fun H locs hP hD hS => ?_)
  have hP : va_P (dC, dI) vwCl ([(a_this, .inr (3, [.int x1, .int x2, .ref a_due, .ref a_columnsOf, .ref a_colours, .ref a_rowsOf, .ref a_clashesOf, .int 0])), (a_columnsOf, .inl (cI, 60, .inl (fun _ => 0))), (a_colours, .inl (cB, 1440, .inl (fun _ => 0))), (a_rowsOf, .inl (cJ, 24, .inr (.inl (fun _ => 0)))), (a_clashesOf, .inl (cJ, 60, .inr (.inl (fun _ => 0)))), (a_due, .inl (cI, 24, .inl (fun _ => 0)))]) H := hP
  have hD : va_D A ([(a_this, .inr (3, [.int x1, .int x2, .ref a_due, .ref a_columnsOf, .ref a_colours, .ref a_rowsOf, .ref a_clashesOf, .int 0])), (a_columnsOf, .inl (cI, 60, .inl (fun _ => 0))), (a_colours, .inl (cB, 1440, .inl (fun _ => 0))), (a_rowsOf, .inl (cJ, 24, .inr (.inl (fun _ => 0)))), (a_clashesOf, .inl (cJ, 60, .inr (.inl (fun _ => 0)))), (a_due, .inl (cI, 24, .inl (fun _ => 0)))]) := hD
  refine lv_iconst (v := 0) hx hb dX2_init_55 (by decide) ?_
  refine lv_istore_n (lv' := [(3, .int (0 : Int32)), (0, .ref a_this), (1, .int x1), (2, .int x2)]) hx hb dX2_init_56 rfl hl (by decide) rfl (fun ls hl => ?_)
  refine W.widen (k := 5) (n := 1608) (by decide) (by decide) ?_
  have hP : va_P (dC, dI) vwCl (ws_X2_init cB cI cJ cZ a_this a_columnsOf a_colours a_rowsOf a_clashesOf a_due x1 x2 0 (fun _ => 0) (fun _ => 0) (fun _ => 0) (fun _ => 0) (fun _ => 0)) H := hP
  have hD : va_D A (ws_X2_init cB cI cJ cZ a_this a_columnsOf a_colours a_rowsOf a_clashesOf a_due x1 x2 0 (fun _ => 0) (fun _ => 0) (fun _ => 0) (fun _ => 0) (fun _ => 0)) := hD
  exact w_X2_init_57 C0 hK hin 1000000 x1 x2 0 (fun _ => 0) (fun _ => 0) (fun _ => 0) (fun _ => 0) (fun _ => 0) x2 (0 : Int32) hf _ _ hP hD hS ls (lv_sub hl [1, 3, 0] rfl)
