-- X2.isNeeded(I)Z: 8 instructions
theorem in_X2_isNeeded_X2 : ∀ w ∈ wsX20, w ∈ wsX2_isNeeded := by decide +kernel
abbrev ws_X2_isNeeded (cB cI cJ cZ : ClassId) (a_this a_due a_columnsOf a_colours a_rowsOf a_clashesOf : Nat) (v_columnCount : Int32) (v_neededCount : Int32) (v_rowCount : Int32) : va_W := [(a_this, .inr (3, [.int v_columnCount, .int v_neededCount, .ref a_due, .ref a_columnsOf, .ref a_colours, .ref a_rowsOf, .ref a_clashesOf, .int v_rowCount]))]
abbrev rm_X2_isNeeded : Room := { frames := 0, cells := 0, slots := 0, locals := 0 }
theorem lk_X2_isNeeded_f30 : Cond.fieldLink RX2 30 "LinkedCovers$Table" "neededCount" "I" ∈ wsX2_isNeeded := by decide +kernel
def f_X2_isNeeded_13 (v_neededCount : Int32)  (y0 : Int32) : Option (Int32 × Unit) :=
  if ¬ (y0 = 0 ∨ y0 = 1) then none else
  some ((y0, ()))
def f_X2_isNeeded (v_neededCount : Int32)  (x1 : Int32) : Option (Int32 × Unit) :=
  if v_neededCount ≤ x1 then
  (f_X2_isNeeded_13 v_neededCount (0 : Int32))
  else
  (f_X2_isNeeded_13 v_neededCount (1 : Int32))
abbrev qc_X2_isNeeded (A : Nat → Prop) (dC : Nat → ClassId) (dI : Nat → Nat → Nat) (cB cI cJ cZ : ClassId) (a_this a_due a_columnsOf a_colours a_rowsOf a_clashesOf : Nat) (v_columnCount : Int32) (v_neededCount : Int32) (v_rowCount : Int32) (out : Int32 × Unit) : Array Value → State → Outcome → State → Prop := va_Qi (fun (r : Int32) (u : Unit) => r = out.1 ∧ u = out.2) (fun (u : Unit) (t : State) => va_P (dC, dI) vwCl (ws_X2_isNeeded cB cI cJ cZ a_this a_due a_columnsOf a_colours a_rowsOf a_clashesOf v_columnCount v_neededCount v_rowCount) t.heap ∧ va_K (dC, dI) vwCl (tysG cB cI cJ cZ) t ∧ va_D A (ws_X2_isNeeded cB cI cJ cZ a_this a_due a_columnsOf a_colours a_rowsOf a_clashesOf v_columnCount v_neededCount v_rowCount)) A
abbrev g_X2_isNeeded_13 (p : Program) (l : Launch) (e : Env) (s : State) (m : MethodId) (args : Array Value) (below : List Frame) (meth : Method) (c : Code) (A : Nat → Prop) (dC : Nat → ClassId) (dI : Nat → Nat → Nat) (cB cI cJ cZ : ClassId) (a_this a_due a_columnsOf a_colours a_rowsOf a_clashesOf : Nat) (v_columnCount : Int32) (v_neededCount : Int32) (v_rowCount : Int32) (out : Int32 × Unit) (k : Int32 → Option (Int32 × Unit)) : Prop := ∀ (y0 : Int32), k y0 = some out → ∀ (H : Heap) (locs : List Loc), va_P (dC, dI) vwCl (ws_X2_isNeeded cB cI cJ cZ a_this a_due a_columnsOf a_colours a_rowsOf a_clashesOf v_columnCount v_neededCount v_rowCount) H → va_D A (ws_X2_isNeeded cB cI cJ cZ a_this a_due a_columnsOf a_colours a_rowsOf a_clashesOf v_columnCount v_neededCount v_rowCount) → va_S A s.heap H locs → ∀ (ls : Array Slot), lv_has ls 2 [] → W p l e (headSpec wsX2_isNeeded rm_X2_isNeeded).room s m args below meth c H locs 0 0 (MQ below (qc_X2_isNeeded A dC dI cB cI cJ cZ a_this a_due a_columnsOf a_colours a_rowsOf a_clashesOf v_columnCount v_neededCount v_rowCount out) args s 0 0 A) (F0 m 13 ls [.int y0])
abbrev g_X2_isNeeded_0 (p : Program) (l : Launch) (e : Env) (s : State) (m : MethodId) (args : Array Value) (below : List Frame) (meth : Method) (c : Code) (A : Nat → Prop) (dC : Nat → ClassId) (dI : Nat → Nat → Nat) (cB cI cJ cZ : ClassId) (a_this a_due a_columnsOf a_colours a_rowsOf a_clashesOf : Nat) (v_columnCount : Int32) (v_neededCount : Int32) (v_rowCount : Int32) (out : Int32 × Unit) (k : Int32 → Option (Int32 × Unit)) : Prop := ∀ (x1 : Int32), k x1 = some out → ∀ (H : Heap) (locs : List Loc), va_P (dC, dI) vwCl (ws_X2_isNeeded cB cI cJ cZ a_this a_due a_columnsOf a_colours a_rowsOf a_clashesOf v_columnCount v_neededCount v_rowCount) H → va_D A (ws_X2_isNeeded cB cI cJ cZ a_this a_due a_columnsOf a_colours a_rowsOf a_clashesOf v_columnCount v_neededCount v_rowCount) → va_S A s.heap H locs → ∀ (ls : Array Slot), lv_has ls 2 [(0, .ref a_this), (1, .int x1)] → W p l e (headSpec wsX2_isNeeded rm_X2_isNeeded).room s m args below meth c H locs 0 0 (MQ below (qc_X2_isNeeded A dC dI cB cI cJ cZ a_this a_due a_columnsOf a_colours a_rowsOf a_clashesOf v_columnCount v_neededCount v_rowCount out) args s 0 0 A) (F0 m 0 ls [])
set_option maxHeartbeats 4000000 in
set_option maxRecDepth 100000 in
theorem w_X2_isNeeded_13 {p : Program} {l : Launch} {e : Env} {s : State} {m : MethodId} {args : Array Value} {below : List Frame} {meth : Method} {c : Code} {A : Nat → Prop} {dC : Nat → ClassId} {dI : Nat → Nat → Nat} {cB cI cJ cZ : ClassId} {a_this a_due a_columnsOf a_colours a_rowsOf a_clashesOf : Nat} {v_columnCount : Int32} {v_neededCount : Int32} {v_rowCount : Int32} {out : Int32 × Unit} (C0 : Cx RX2 cX2_isNeeded (some .boolean) 2 wsX2_isNeeded p s m args meth c A) (hK : va_K (dC, dI) vwCl (tysG cB cI cJ cZ) s)  : g_X2_isNeeded_13 p l e s m args below meth c A dC dI cB cI cJ cZ a_this a_due a_columnsOf a_colours a_rowsOf a_clashesOf v_columnCount v_neededCount v_rowCount out (f_X2_isNeeded_13 v_neededCount ) := by
  obtain ⟨hx, hb, hr, hml, hown, hts, hlocks, hA⟩ := id C0
  intro y0 hf H locs hP hD hS ls hl
  replace hf : ((if ¬ (y0 = 0 ∨ y0 = 1) then none else
  some ((y0, ()))) : Option (Int32 × Unit)) = some out := hf
  obtain ⟨h_1, hf⟩ := gd_ck hf
  have h9 := Option.some.inj hf
  have h8 := congrArg Prod.fst h9
  have h7 := congrArg Prod.snd h9
  exact W.zret (v := y0) hx hb hr (gd_z h_1) (fun t ht hW => ⟨⟨y0, (), rfl, ⟨h8, h7⟩, by rw [ht]; exact hP, va_K.moved hW.alike hK, hD⟩, hS.F ht⟩) hS.2.2 dX2_isNeeded_13
set_option maxHeartbeats 4000000 in
set_option maxRecDepth 100000 in
theorem w_X2_isNeeded_0 {p : Program} {l : Launch} {e : Env} {s : State} {m : MethodId} {args : Array Value} {below : List Frame} {meth : Method} {c : Code} {A : Nat → Prop} {dC : Nat → ClassId} {dI : Nat → Nat → Nat} {cB cI cJ cZ : ClassId} {a_this a_due a_columnsOf a_colours a_rowsOf a_clashesOf : Nat} {v_columnCount : Int32} {v_neededCount : Int32} {v_rowCount : Int32} {out : Int32 × Unit} (C0 : Cx RX2 cX2_isNeeded (some .boolean) 2 wsX2_isNeeded p s m args meth c A) (hK : va_K (dC, dI) vwCl (tysG cB cI cJ cZ) s)  : g_X2_isNeeded_0 p l e s m args below meth c A dC dI cB cI cJ cZ a_this a_due a_columnsOf a_colours a_rowsOf a_clashesOf v_columnCount v_neededCount v_rowCount out (f_X2_isNeeded v_neededCount ) := by
  obtain ⟨hx, hb, hr, hml, hown, hts, hlocks, hA⟩ := id C0
  intro x1 hf H locs hP hD hS ls hl
  replace hf : ((if v_neededCount ≤ x1 then
  (f_X2_isNeeded_13 v_neededCount (0 : Int32))
  else
  (f_X2_isNeeded_13 v_neededCount (1 : Int32))) : Option (Int32 × Unit)) = some out := hf
  refine lv_iload_n hx hb dX2_isNeeded_0 rfl (lv_at hl 1 rfl) ?_
  refine lv_aload_n hx hb dX2_isNeeded_1 rfl (lv_at hl 0 rfl) ?_
  refine va_get (D := (dC, dI)) (ci := 3) (v := .int v_neededCount) (C := RX2) (T := TX2) (N := 8) hx hb hts in_X2_isNeeded_X2 hown hK hP 0 rfl rfl 1 (by decide) (hts (.fieldLink RX2 30 "LinkedCovers$Table" "neededCount" "I") lk_X2_isNeeded_f30) (fun _ h9 => h9) rfl dX2_isNeeded_2 ?_
  refine lv_icmp_ge (tgt := 12) hx hb dX2_isNeeded_5 (by decide) (fun c_2 => ?_) (fun c_2 => ?_)
  · replace hf := (if_pos c_2).symm.trans hf
    refine lv_iconst (v := 0) hx hb dX2_isNeeded_12 (by decide) ?_
    exact w_X2_isNeeded_13 C0 hK (0 : Int32) hf _ _ hP hD hS ls (lv_sub hl [] rfl)
  · replace hf := (if_neg c_2).symm.trans hf
    refine lv_iconst (v := 1) hx hb dX2_isNeeded_8 (by decide) ?_
    refine lv_goto (tgt := 13) hx hb dX2_isNeeded_9 (by decide) ?_
    exact w_X2_isNeeded_13 C0 hK (1 : Int32) hf _ _ hP hD hS ls (lv_sub hl [] rfl)
theorem nd_X2_isNeeded : yX2_isNeeded.cls ≠ "java/lang/invoke/MethodHandle" ∧ yX2_isNeeded.cls ≠ "java/lang/invoke/VarHandle" ∧ (parseMethodDescriptor yX2_isNeeded.desc).map (fun d => d.parameters.length) = some 1 := by decide +kernel
set_option maxHeartbeats 4000000 in
set_option maxRecDepth 100000 in
theorem c_X2_isNeeded (l : Launch) (dC : Nat → ClassId) (dI : Nat → Nat → Nat) (cB cI cJ cZ : ClassId) (a_this a_due a_columnsOf a_colours a_rowsOf a_clashesOf : Nat) (sz : Nat) (v_columnCount : Int32) (v_neededCount : Int32) (v_rowCount : Int32) (x1 : Int32) (out : Int32 × Unit) (hf : f_X2_isNeeded v_neededCount x1 = some out) : Met l yX2_isNeeded wsX2_isNeeded rm_X2_isNeeded (va_Pc [.ref a_this, .int x1] (fun U => U.heap.size = sz ∧ va_P (dC, dI) vwCl (ws_X2_isNeeded cB cI cJ cZ a_this a_due a_columnsOf a_colours a_rowsOf a_clashesOf v_columnCount v_neededCount v_rowCount) U.heap ∧ va_K (dC, dI) vwCl (tysG cB cI cJ cZ) U ∧ va_D (fun _ => True) (ws_X2_isNeeded cB cI cJ cZ a_this a_due a_columnsOf a_colours a_rowsOf a_clashesOf v_columnCount v_neededCount v_rowCount))) (qc_X2_isNeeded (va_A (ws_X2_isNeeded cB cI cJ cZ a_this a_due a_columnsOf a_colours a_rowsOf a_clashesOf v_columnCount v_neededCount v_rowCount) sz) dC dI cB cI cJ cZ a_this a_due a_columnsOf a_colours a_rowsOf a_clashesOf v_columnCount v_neededCount v_rowCount out) 0 0 (va_A (ws_X2_isNeeded cB cI cJ cZ a_this a_due a_columnsOf a_colours a_rowsOf a_clashesOf v_columnCount v_neededCount v_rowCount) sz) := by
  refine Met.ofW (cc := cX2_isNeeded) (maxL := 2) (ret := (some .boolean)) (by decide) rfl ?_
  intro p e s m args below meth c s₁ B hml hv
  obtain ⟨rfl, hsz, hP, hK, hD0⟩ := hv
  subst hsz
  have hD := hD0.self (sz := s.heap.size)
  generalize hAe : va_A (ws_X2_isNeeded cB cI cJ cZ a_this a_due a_columnsOf a_colours a_rowsOf a_clashesOf v_columnCount v_neededCount v_rowCount) s.heap.size = A at hD ⊢
  have hA : ∀ q : Nat, s.heap.size ≤ q → A q := fun q h => by rw [← hAe]; exact Or.inr h
  have hl := lv_entry ([.ref a_this, .int x1]) (n := 2) (Nat.le_of_ble_eq_true rfl)
  rw [lg_entry_eq]
  generalize (lg_sl ([.ref a_this, .int x1]) ++ List.replicate (2 - (lg_sl ([.ref a_this, .int x1])).length) Slot.unset).toArray = ls at hl ⊢
  have hl : lv_has ls 2 [(0, .ref a_this), (1, .int x1)] := hl
  exact w_X2_isNeeded_0 ⟨B.exec, B.bytes, B.returns, hml, findClass_of_methodNamed B.named, atoms_spec (ws := wsX2_isNeeded) B.pre, B.notSynchronized, hA⟩ hK x1 hf _ _ hP hD va_S.rf ls (lv_sub hl [0, 1] rfl)
-- X2.room()I: 5 instructions
theorem in_X2_room_X2 : ∀ w ∈ wsX20, w ∈ wsX2_room := by decide +kernel
abbrev ws_X2_room (cB cI cJ cZ : ClassId) (a_this a_due a_columnsOf a_colours a_rowsOf a_clashesOf : Nat) (v_columnCount : Int32) (v_neededCount : Int32) (v_rowCount : Int32) : va_W := [(a_this, .inr (3, [.int v_columnCount, .int v_neededCount, .ref a_due, .ref a_columnsOf, .ref a_colours, .ref a_rowsOf, .ref a_clashesOf, .int v_rowCount]))]
abbrev rm_X2_room : Room := { frames := 0, cells := 0, slots := 0, locals := 0 }
theorem lk_X2_room_f36 : Cond.fieldLink RX2 36 "LinkedCovers$Table" "rowCount" "I" ∈ wsX2_room := by decide +kernel
def f_X2_room (v_rowCount : Int32)   : Option (Int32 × Unit) :=
  some ((((60 : Int32) - v_rowCount), ()))
abbrev qc_X2_room (A : Nat → Prop) (dC : Nat → ClassId) (dI : Nat → Nat → Nat) (cB cI cJ cZ : ClassId) (a_this a_due a_columnsOf a_colours a_rowsOf a_clashesOf : Nat) (v_columnCount : Int32) (v_neededCount : Int32) (v_rowCount : Int32) (out : Int32 × Unit) : Array Value → State → Outcome → State → Prop := va_Qi (fun (r : Int32) (u : Unit) => r = out.1 ∧ u = out.2) (fun (u : Unit) (t : State) => va_P (dC, dI) vwCl (ws_X2_room cB cI cJ cZ a_this a_due a_columnsOf a_colours a_rowsOf a_clashesOf v_columnCount v_neededCount v_rowCount) t.heap ∧ va_K (dC, dI) vwCl (tysG cB cI cJ cZ) t ∧ va_D A (ws_X2_room cB cI cJ cZ a_this a_due a_columnsOf a_colours a_rowsOf a_clashesOf v_columnCount v_neededCount v_rowCount)) A
abbrev g_X2_room_0 (p : Program) (l : Launch) (e : Env) (s : State) (m : MethodId) (args : Array Value) (below : List Frame) (meth : Method) (c : Code) (A : Nat → Prop) (dC : Nat → ClassId) (dI : Nat → Nat → Nat) (cB cI cJ cZ : ClassId) (a_this a_due a_columnsOf a_colours a_rowsOf a_clashesOf : Nat) (v_columnCount : Int32) (v_neededCount : Int32) (v_rowCount : Int32) (out : Int32 × Unit) (k : Option (Int32 × Unit)) : Prop := ∀ (_ : Unit), k = some out → ∀ (H : Heap) (locs : List Loc), va_P (dC, dI) vwCl (ws_X2_room cB cI cJ cZ a_this a_due a_columnsOf a_colours a_rowsOf a_clashesOf v_columnCount v_neededCount v_rowCount) H → va_D A (ws_X2_room cB cI cJ cZ a_this a_due a_columnsOf a_colours a_rowsOf a_clashesOf v_columnCount v_neededCount v_rowCount) → va_S A s.heap H locs → ∀ (ls : Array Slot), lv_has ls 1 [(0, .ref a_this)] → W p l e (headSpec wsX2_room rm_X2_room).room s m args below meth c H locs 0 0 (MQ below (qc_X2_room A dC dI cB cI cJ cZ a_this a_due a_columnsOf a_colours a_rowsOf a_clashesOf v_columnCount v_neededCount v_rowCount out) args s 0 0 A) (F0 m 0 ls [])
set_option maxHeartbeats 4000000 in
set_option maxRecDepth 100000 in
theorem w_X2_room_0 {p : Program} {l : Launch} {e : Env} {s : State} {m : MethodId} {args : Array Value} {below : List Frame} {meth : Method} {c : Code} {A : Nat → Prop} {dC : Nat → ClassId} {dI : Nat → Nat → Nat} {cB cI cJ cZ : ClassId} {a_this a_due a_columnsOf a_colours a_rowsOf a_clashesOf : Nat} {v_columnCount : Int32} {v_neededCount : Int32} {v_rowCount : Int32} {out : Int32 × Unit} (C0 : Cx RX2 cX2_room (some .int) 1 wsX2_room p s m args meth c A) (hK : va_K (dC, dI) vwCl (tysG cB cI cJ cZ) s)  : g_X2_room_0 p l e s m args below meth c A dC dI cB cI cJ cZ a_this a_due a_columnsOf a_colours a_rowsOf a_clashesOf v_columnCount v_neededCount v_rowCount out (f_X2_room v_rowCount ) := by
  obtain ⟨hx, hb, hr, hml, hown, hts, hlocks, hA⟩ := id C0
  intro _ hf H locs hP hD hS ls hl
  replace hf : ((some ((((60 : Int32) - v_rowCount), ()))) : Option (Int32 × Unit)) = some out := hf
  refine lv_bipush (v := 60) hx hb dX2_room_0 (by decide) ?_
  refine lv_aload_n hx hb dX2_room_2 rfl (lv_at hl 0 rfl) ?_
  refine va_get (D := (dC, dI)) (ci := 3) (v := .int v_rowCount) (C := RX2) (T := TX2) (N := 8) hx hb hts in_X2_room_X2 hown hK hP 0 rfl rfl 7 (by decide) (hts (.fieldLink RX2 36 "LinkedCovers$Table" "rowCount" "I") lk_X2_room_f36) (fun _ h9 => h9) rfl dX2_room_3 ?_
  refine lv_isub hx hb dX2_room_6 ?_
  have h9 := Option.some.inj hf
  have h8 := congrArg Prod.fst h9
  have h7 := congrArg Prod.snd h9
  exact W.iret (v := ((60 : Int32) - v_rowCount)) hx hb hr (fun t ht hW => ⟨⟨((60 : Int32) - v_rowCount), (), rfl, ⟨h8, h7⟩, by rw [ht]; exact hP, va_K.moved hW.alike hK, hD⟩, hS.F ht⟩) hS.2.2 dX2_room_7
theorem nd_X2_room : yX2_room.cls ≠ "java/lang/invoke/MethodHandle" ∧ yX2_room.cls ≠ "java/lang/invoke/VarHandle" ∧ (parseMethodDescriptor yX2_room.desc).map (fun d => d.parameters.length) = some 0 := by decide +kernel
set_option maxHeartbeats 4000000 in
set_option maxRecDepth 100000 in
theorem c_X2_room (l : Launch) (dC : Nat → ClassId) (dI : Nat → Nat → Nat) (cB cI cJ cZ : ClassId) (a_this a_due a_columnsOf a_colours a_rowsOf a_clashesOf : Nat) (sz : Nat) (v_columnCount : Int32) (v_neededCount : Int32) (v_rowCount : Int32)  (out : Int32 × Unit) (hf : f_X2_room v_rowCount  = some out) : Met l yX2_room wsX2_room rm_X2_room (va_Pc [.ref a_this] (fun U => U.heap.size = sz ∧ va_P (dC, dI) vwCl (ws_X2_room cB cI cJ cZ a_this a_due a_columnsOf a_colours a_rowsOf a_clashesOf v_columnCount v_neededCount v_rowCount) U.heap ∧ va_K (dC, dI) vwCl (tysG cB cI cJ cZ) U ∧ va_D (fun _ => True) (ws_X2_room cB cI cJ cZ a_this a_due a_columnsOf a_colours a_rowsOf a_clashesOf v_columnCount v_neededCount v_rowCount))) (qc_X2_room (va_A (ws_X2_room cB cI cJ cZ a_this a_due a_columnsOf a_colours a_rowsOf a_clashesOf v_columnCount v_neededCount v_rowCount) sz) dC dI cB cI cJ cZ a_this a_due a_columnsOf a_colours a_rowsOf a_clashesOf v_columnCount v_neededCount v_rowCount out) 0 0 (va_A (ws_X2_room cB cI cJ cZ a_this a_due a_columnsOf a_colours a_rowsOf a_clashesOf v_columnCount v_neededCount v_rowCount) sz) := by
  refine Met.ofW (cc := cX2_room) (maxL := 1) (ret := (some .int)) (by decide) rfl ?_
  intro p e s m args below meth c s₁ B hml hv
  obtain ⟨rfl, hsz, hP, hK, hD0⟩ := hv
  subst hsz
  have hD := hD0.self (sz := s.heap.size)
  generalize hAe : va_A (ws_X2_room cB cI cJ cZ a_this a_due a_columnsOf a_colours a_rowsOf a_clashesOf v_columnCount v_neededCount v_rowCount) s.heap.size = A at hD ⊢
  have hA : ∀ q : Nat, s.heap.size ≤ q → A q := fun q h => by rw [← hAe]; exact Or.inr h
  have hl := lv_entry ([.ref a_this]) (n := 1) (Nat.le_of_ble_eq_true rfl)
  rw [lg_entry_eq]
  generalize (lg_sl ([.ref a_this]) ++ List.replicate (1 - (lg_sl ([.ref a_this])).length) Slot.unset).toArray = ls at hl ⊢
  have hl : lv_has ls 1 [(0, .ref a_this)] := hl
  exact w_X2_room_0 ⟨B.exec, B.bytes, B.returns, hml, findClass_of_methodNamed B.named, atoms_spec (ws := wsX2_room) B.pre, B.notSynchronized, hA⟩ hK () hf _ _ hP hD va_S.rf ls (lv_sub hl [0] rfl)
-- X2.neededColumns()I: 7 instructions
theorem in_X2_neededColumns_X2 : ∀ w ∈ wsX20, w ∈ wsX2_neededColumns := by decide +kernel
abbrev ws_X2_neededColumns (cB cI cJ cZ : ClassId) (a_this a_due a_columnsOf a_colours a_rowsOf a_clashesOf : Nat) (v_columnCount : Int32) (v_neededCount : Int32) (v_rowCount : Int32) : va_W := [(a_this, .inr (3, [.int v_columnCount, .int v_neededCount, .ref a_due, .ref a_columnsOf, .ref a_colours, .ref a_rowsOf, .ref a_clashesOf, .int v_rowCount]))]
abbrev rm_X2_neededColumns : Room := { frames := 0, cells := 0, slots := 0, locals := 0 }
theorem lk_X2_neededColumns_f30 : Cond.fieldLink RX2 30 "LinkedCovers$Table" "neededCount" "I" ∈ wsX2_neededColumns := by decide +kernel
def f_X2_neededColumns (v_neededCount : Int32)   : Option (Int32 × Unit) :=
  some (((((1 : Int32) <<< (v_neededCount &&& 31)) - (1 : Int32)), ()))
abbrev qc_X2_neededColumns (A : Nat → Prop) (dC : Nat → ClassId) (dI : Nat → Nat → Nat) (cB cI cJ cZ : ClassId) (a_this a_due a_columnsOf a_colours a_rowsOf a_clashesOf : Nat) (v_columnCount : Int32) (v_neededCount : Int32) (v_rowCount : Int32) (out : Int32 × Unit) : Array Value → State → Outcome → State → Prop := va_Qi (fun (r : Int32) (u : Unit) => r = out.1 ∧ u = out.2) (fun (u : Unit) (t : State) => va_P (dC, dI) vwCl (ws_X2_neededColumns cB cI cJ cZ a_this a_due a_columnsOf a_colours a_rowsOf a_clashesOf v_columnCount v_neededCount v_rowCount) t.heap ∧ va_K (dC, dI) vwCl (tysG cB cI cJ cZ) t ∧ va_D A (ws_X2_neededColumns cB cI cJ cZ a_this a_due a_columnsOf a_colours a_rowsOf a_clashesOf v_columnCount v_neededCount v_rowCount)) A
abbrev g_X2_neededColumns_0 (p : Program) (l : Launch) (e : Env) (s : State) (m : MethodId) (args : Array Value) (below : List Frame) (meth : Method) (c : Code) (A : Nat → Prop) (dC : Nat → ClassId) (dI : Nat → Nat → Nat) (cB cI cJ cZ : ClassId) (a_this a_due a_columnsOf a_colours a_rowsOf a_clashesOf : Nat) (v_columnCount : Int32) (v_neededCount : Int32) (v_rowCount : Int32) (out : Int32 × Unit) (k : Option (Int32 × Unit)) : Prop := ∀ (_ : Unit), k = some out → ∀ (H : Heap) (locs : List Loc), va_P (dC, dI) vwCl (ws_X2_neededColumns cB cI cJ cZ a_this a_due a_columnsOf a_colours a_rowsOf a_clashesOf v_columnCount v_neededCount v_rowCount) H → va_D A (ws_X2_neededColumns cB cI cJ cZ a_this a_due a_columnsOf a_colours a_rowsOf a_clashesOf v_columnCount v_neededCount v_rowCount) → va_S A s.heap H locs → ∀ (ls : Array Slot), lv_has ls 1 [(0, .ref a_this)] → W p l e (headSpec wsX2_neededColumns rm_X2_neededColumns).room s m args below meth c H locs 0 0 (MQ below (qc_X2_neededColumns A dC dI cB cI cJ cZ a_this a_due a_columnsOf a_colours a_rowsOf a_clashesOf v_columnCount v_neededCount v_rowCount out) args s 0 0 A) (F0 m 0 ls [])
set_option maxHeartbeats 4000000 in
set_option maxRecDepth 100000 in
theorem w_X2_neededColumns_0 {p : Program} {l : Launch} {e : Env} {s : State} {m : MethodId} {args : Array Value} {below : List Frame} {meth : Method} {c : Code} {A : Nat → Prop} {dC : Nat → ClassId} {dI : Nat → Nat → Nat} {cB cI cJ cZ : ClassId} {a_this a_due a_columnsOf a_colours a_rowsOf a_clashesOf : Nat} {v_columnCount : Int32} {v_neededCount : Int32} {v_rowCount : Int32} {out : Int32 × Unit} (C0 : Cx RX2 cX2_neededColumns (some .int) 1 wsX2_neededColumns p s m args meth c A) (hK : va_K (dC, dI) vwCl (tysG cB cI cJ cZ) s)  : g_X2_neededColumns_0 p l e s m args below meth c A dC dI cB cI cJ cZ a_this a_due a_columnsOf a_colours a_rowsOf a_clashesOf v_columnCount v_neededCount v_rowCount out (f_X2_neededColumns v_neededCount ) := by
  obtain ⟨hx, hb, hr, hml, hown, hts, hlocks, hA⟩ := id C0
  intro _ hf H locs hP hD hS ls hl
  replace hf : ((some (((((1 : Int32) <<< (v_neededCount &&& 31)) - (1 : Int32)), ()))) : Option (Int32 × Unit)) = some out := hf
  refine lv_iconst (v := 1) hx hb dX2_neededColumns_0 (by decide) ?_
  refine lv_aload_n hx hb dX2_neededColumns_1 rfl (lv_at hl 0 rfl) ?_
  refine va_get (D := (dC, dI)) (ci := 3) (v := .int v_neededCount) (C := RX2) (T := TX2) (N := 8) hx hb hts in_X2_neededColumns_X2 hown hK hP 0 rfl rfl 1 (by decide) (hts (.fieldLink RX2 30 "LinkedCovers$Table" "neededCount" "I") lk_X2_neededColumns_f30) (fun _ h9 => h9) rfl dX2_neededColumns_2 ?_
  refine lv_ishl hx hb dX2_neededColumns_5 ?_
  refine lv_iconst (v := 1) hx hb dX2_neededColumns_6 (by decide) ?_
  refine lv_isub hx hb dX2_neededColumns_7 ?_
  have h9 := Option.some.inj hf
  have h8 := congrArg Prod.fst h9
  have h7 := congrArg Prod.snd h9
  exact W.iret (v := (((1 : Int32) <<< (v_neededCount &&& 31)) - (1 : Int32))) hx hb hr (fun t ht hW => ⟨⟨(((1 : Int32) <<< (v_neededCount &&& 31)) - (1 : Int32)), (), rfl, ⟨h8, h7⟩, by rw [ht]; exact hP, va_K.moved hW.alike hK, hD⟩, hS.F ht⟩) hS.2.2 dX2_neededColumns_8
theorem nd_X2_neededColumns : yX2_neededColumns.cls ≠ "java/lang/invoke/MethodHandle" ∧ yX2_neededColumns.cls ≠ "java/lang/invoke/VarHandle" ∧ (parseMethodDescriptor yX2_neededColumns.desc).map (fun d => d.parameters.length) = some 0 := by decide +kernel
set_option maxHeartbeats 4000000 in
set_option maxRecDepth 100000 in
theorem c_X2_neededColumns (l : Launch) (dC : Nat → ClassId) (dI : Nat → Nat → Nat) (cB cI cJ cZ : ClassId) (a_this a_due a_columnsOf a_colours a_rowsOf a_clashesOf : Nat) (sz : Nat) (v_columnCount : Int32) (v_neededCount : Int32) (v_rowCount : Int32)  (out : Int32 × Unit) (hf : f_X2_neededColumns v_neededCount  = some out) : Met l yX2_neededColumns wsX2_neededColumns rm_X2_neededColumns (va_Pc [.ref a_this] (fun U => U.heap.size = sz ∧ va_P (dC, dI) vwCl (ws_X2_neededColumns cB cI cJ cZ a_this a_due a_columnsOf a_colours a_rowsOf a_clashesOf v_columnCount v_neededCount v_rowCount) U.heap ∧ va_K (dC, dI) vwCl (tysG cB cI cJ cZ) U ∧ va_D (fun _ => True) (ws_X2_neededColumns cB cI cJ cZ a_this a_due a_columnsOf a_colours a_rowsOf a_clashesOf v_columnCount v_neededCount v_rowCount))) (qc_X2_neededColumns (va_A (ws_X2_neededColumns cB cI cJ cZ a_this a_due a_columnsOf a_colours a_rowsOf a_clashesOf v_columnCount v_neededCount v_rowCount) sz) dC dI cB cI cJ cZ a_this a_due a_columnsOf a_colours a_rowsOf a_clashesOf v_columnCount v_neededCount v_rowCount out) 0 0 (va_A (ws_X2_neededColumns cB cI cJ cZ a_this a_due a_columnsOf a_colours a_rowsOf a_clashesOf v_columnCount v_neededCount v_rowCount) sz) := by
  refine Met.ofW (cc := cX2_neededColumns) (maxL := 1) (ret := (some .int)) (by decide) rfl ?_
  intro p e s m args below meth c s₁ B hml hv
  obtain ⟨rfl, hsz, hP, hK, hD0⟩ := hv
  subst hsz
  have hD := hD0.self (sz := s.heap.size)
  generalize hAe : va_A (ws_X2_neededColumns cB cI cJ cZ a_this a_due a_columnsOf a_colours a_rowsOf a_clashesOf v_columnCount v_neededCount v_rowCount) s.heap.size = A at hD ⊢
  have hA : ∀ q : Nat, s.heap.size ≤ q → A q := fun q h => by rw [← hAe]; exact Or.inr h
  have hl := lv_entry ([.ref a_this]) (n := 1) (Nat.le_of_ble_eq_true rfl)
  rw [lg_entry_eq]
  generalize (lg_sl ([.ref a_this]) ++ List.replicate (1 - (lg_sl ([.ref a_this])).length) Slot.unset).toArray = ls at hl ⊢
  have hl : lv_has ls 1 [(0, .ref a_this)] := hl
  exact w_X2_neededColumns_0 ⟨B.exec, B.bytes, B.returns, hml, findClass_of_methodNamed B.named, atoms_spec (ws := wsX2_neededColumns) B.pre, B.notSynchronized, hA⟩ hK () hf _ _ hP hD va_S.rf ls (lv_sub hl [0] rfl)
-- X2.uncovered(IJ)I: 36 instructions
theorem in_X2_uncovered_X2 : ∀ w ∈ wsX20, w ∈ wsX2_uncovered := by decide +kernel
abbrev ws_X2_uncovered (cB cI cJ cZ : ClassId) (a_this a_due a_rowsOf a_columnsOf a_colours a_clashesOf : Nat) (v_columnCount : Int32) (v_neededCount : Int32) (v_rowCount : Int32) (v_due : (Nat → Int32)) (v_rowsOf : (Nat → Int64)) : va_W := [(a_this, .inr (3, [.int v_columnCount, .int v_neededCount, .ref a_due, .ref a_columnsOf, .ref a_colours, .ref a_rowsOf, .ref a_clashesOf, .int v_rowCount])), (a_due, .inl (cI, 24, .inl v_due)), (a_rowsOf, .inl (cJ, 24, .inr (.inl v_rowsOf)))]
abbrev rm_X2_uncovered : Room := { frames := 1, cells := 0, slots := 0, locals := 21 }
theorem lk_X2_uncovered_f30 : Cond.fieldLink RX2 30 "LinkedCovers$Table" "neededCount" "I" ∈ wsX2_uncovered := by decide +kernel
theorem lk_X2_uncovered_f19 : Cond.fieldLink RX2 19 "LinkedCovers$Table" "rowsOf" "[J" ∈ wsX2_uncovered := by decide +kernel
theorem lk_X2_uncovered_f33 : Cond.fieldLink RX2 33 "LinkedCovers$Table" "due" "[I" ∈ wsX2_uncovered := by decide +kernel
def f_X2_uncovered_55 (v_neededCount : Int32) (v_due : (Nat → Int32)) (v_rowsOf : (Nat → Int64)) (k_6 : Int32 → Int64 → Int32 → Int32 → Option (Int32 × Unit)) (x1 : Int32) (x2 : Int64) (x4 : Int32) (x5 : Int32) : Option (Int32 × Unit) :=
  k_6 x1 x2 x4 (x5 + 1)
def f_X2_uncovered_6 (v_neededCount : Int32) (v_due : (Nat → Int32)) (v_rowsOf : (Nat → Int64))  : Nat → Int32 → Int64 → Int32 → Int32 → Option (Int32 × Unit)
  | 0 => fun _ _ _ _ => none
  | n + 1 => fun x1 x2 x4 x5 => if v_neededCount ≤ x5 then
  (some ((x4, ())))
  else
  (if ((x1 >>> (x5 &&& 31)) &&& (1 : Int32)) = 0 then
  (f_X2_uncovered_55 v_neededCount v_due v_rowsOf (f_X2_uncovered_6 v_neededCount v_due v_rowsOf n) x1 x2 x4 x5)
  else
  (if (x5 < 0 ∨ 24 ≤ Int32.toNatClampNeg x5) then none else
  (f_J13_bitCount_95d88 ((v_rowsOf (Int32.toNatClampNeg x5)) &&& x2)).bind (fun o_4 =>
  if (x5 < 0 ∨ 24 ≤ Int32.toNatClampNeg x5) then none else
  if (v_due (Int32.toNatClampNeg x5)) ≤ o_4.1 then
  (f_X2_uncovered_55 v_neededCount v_due v_rowsOf (f_X2_uncovered_6 v_neededCount v_due v_rowsOf n) x1 x2 x4 x5)
  else
  (f_X2_uncovered_55 v_neededCount v_due v_rowsOf (f_X2_uncovered_6 v_neededCount v_due v_rowsOf n) x1 x2 (x4 ||| ((1 : Int32) <<< (x5 &&& 31))) x5))))
def f_X2_uncovered (v_neededCount : Int32) (v_due : (Nat → Int32)) (v_rowsOf : (Nat → Int64))  (x1 : Int32) (x2 : Int64) : Option (Int32 × Unit) :=
  f_X2_uncovered_6 v_neededCount v_due v_rowsOf 1000000 x1 x2 (0 : Int32) (0 : Int32)
abbrev qc_X2_uncovered (A : Nat → Prop) (dC : Nat → ClassId) (dI : Nat → Nat → Nat) (cB cI cJ cZ : ClassId) (a_this a_due a_rowsOf a_columnsOf a_colours a_clashesOf : Nat) (v_columnCount : Int32) (v_neededCount : Int32) (v_rowCount : Int32) (v_due : (Nat → Int32)) (v_rowsOf : (Nat → Int64)) (out : Int32 × Unit) : Array Value → State → Outcome → State → Prop := va_Qi (fun (r : Int32) (u : Unit) => r = out.1 ∧ u = out.2) (fun (u : Unit) (t : State) => va_P (dC, dI) vwCl (ws_X2_uncovered cB cI cJ cZ a_this a_due a_rowsOf a_columnsOf a_colours a_clashesOf v_columnCount v_neededCount v_rowCount v_due v_rowsOf) t.heap ∧ va_K (dC, dI) vwCl (tysG cB cI cJ cZ) t ∧ va_D A (ws_X2_uncovered cB cI cJ cZ a_this a_due a_rowsOf a_columnsOf a_colours a_clashesOf v_columnCount v_neededCount v_rowCount v_due v_rowsOf)) A
abbrev g_X2_uncovered_55 (p : Program) (l : Launch) (e : Env) (s : State) (m : MethodId) (args : Array Value) (below : List Frame) (meth : Method) (c : Code) (A : Nat → Prop) (dC : Nat → ClassId) (dI : Nat → Nat → Nat) (cB cI cJ cZ : ClassId) (a_this a_due a_rowsOf a_columnsOf a_colours a_clashesOf : Nat) (v_columnCount : Int32) (v_neededCount : Int32) (v_rowCount : Int32) (v_due : (Nat → Int32)) (v_rowsOf : (Nat → Int64)) (out : Int32 × Unit) (k : Int32 → Int64 → Int32 → Int32 → Option (Int32 × Unit)) : Prop := ∀ (x1 : Int32) (x2 : Int64) (x4 : Int32) (x5 : Int32), k x1 x2 x4 x5 = some out → ∀ (H : Heap) (locs : List Loc), va_P (dC, dI) vwCl (ws_X2_uncovered cB cI cJ cZ a_this a_due a_rowsOf a_columnsOf a_colours a_clashesOf v_columnCount v_neededCount v_rowCount v_due v_rowsOf) H → va_D A (ws_X2_uncovered cB cI cJ cZ a_this a_due a_rowsOf a_columnsOf a_colours a_clashesOf v_columnCount v_neededCount v_rowCount v_due v_rowsOf) → va_S A s.heap H locs → ∀ (ls : Array Slot), lv_has ls 6 [(0, .ref a_this), (1, .int x1), (2, .long x2), (4, .int x4), (5, .int x5)] → W p l e (headSpec wsX2_uncovered rm_X2_uncovered).room s m args below meth c H locs 0 0 (MQ below (qc_X2_uncovered A dC dI cB cI cJ cZ a_this a_due a_rowsOf a_columnsOf a_colours a_clashesOf v_columnCount v_neededCount v_rowCount v_due v_rowsOf out) args s 0 0 A) (F0 m 55 ls [])
abbrev g_X2_uncovered_6 (p : Program) (l : Launch) (e : Env) (s : State) (m : MethodId) (args : Array Value) (below : List Frame) (meth : Method) (c : Code) (A : Nat → Prop) (dC : Nat → ClassId) (dI : Nat → Nat → Nat) (cB cI cJ cZ : ClassId) (a_this a_due a_rowsOf a_columnsOf a_colours a_clashesOf : Nat) (v_columnCount : Int32) (v_neededCount : Int32) (v_rowCount : Int32) (v_due : (Nat → Int32)) (v_rowsOf : (Nat → Int64)) (out : Int32 × Unit) (k : Int32 → Int64 → Int32 → Int32 → Option (Int32 × Unit)) : Prop := ∀ (x1 : Int32) (x2 : Int64) (x4 : Int32) (x5 : Int32), k x1 x2 x4 x5 = some out → ∀ (H : Heap) (locs : List Loc), va_P (dC, dI) vwCl (ws_X2_uncovered cB cI cJ cZ a_this a_due a_rowsOf a_columnsOf a_colours a_clashesOf v_columnCount v_neededCount v_rowCount v_due v_rowsOf) H → va_D A (ws_X2_uncovered cB cI cJ cZ a_this a_due a_rowsOf a_columnsOf a_colours a_clashesOf v_columnCount v_neededCount v_rowCount v_due v_rowsOf) → va_S A s.heap H locs → ∀ (ls : Array Slot), lv_has ls 6 [(0, .ref a_this), (1, .int x1), (2, .long x2), (4, .int x4), (5, .int x5)] → W p l e (headSpec wsX2_uncovered rm_X2_uncovered).room s m args below meth c H locs 0 0 (MQ below (qc_X2_uncovered A dC dI cB cI cJ cZ a_this a_due a_rowsOf a_columnsOf a_colours a_clashesOf v_columnCount v_neededCount v_rowCount v_due v_rowsOf out) args s 0 0 A) (F0 m 6 ls [])
abbrev g_X2_uncovered_0 (p : Program) (l : Launch) (e : Env) (s : State) (m : MethodId) (args : Array Value) (below : List Frame) (meth : Method) (c : Code) (A : Nat → Prop) (dC : Nat → ClassId) (dI : Nat → Nat → Nat) (cB cI cJ cZ : ClassId) (a_this a_due a_rowsOf a_columnsOf a_colours a_clashesOf : Nat) (v_columnCount : Int32) (v_neededCount : Int32) (v_rowCount : Int32) (v_due : (Nat → Int32)) (v_rowsOf : (Nat → Int64)) (out : Int32 × Unit) (k : Int32 → Int64 → Option (Int32 × Unit)) : Prop := ∀ (x1 : Int32) (x2 : Int64), k x1 x2 = some out → ∀ (H : Heap) (locs : List Loc), va_P (dC, dI) vwCl (ws_X2_uncovered cB cI cJ cZ a_this a_due a_rowsOf a_columnsOf a_colours a_clashesOf v_columnCount v_neededCount v_rowCount v_due v_rowsOf) H → va_D A (ws_X2_uncovered cB cI cJ cZ a_this a_due a_rowsOf a_columnsOf a_colours a_clashesOf v_columnCount v_neededCount v_rowCount v_due v_rowsOf) → va_S A s.heap H locs → ∀ (ls : Array Slot), lv_has ls 6 [(0, .ref a_this), (1, .int x1), (2, .long x2)] → W p l e (headSpec wsX2_uncovered rm_X2_uncovered).room s m args below meth c H locs 0 0 (MQ below (qc_X2_uncovered A dC dI cB cI cJ cZ a_this a_due a_rowsOf a_columnsOf a_colours a_clashesOf v_columnCount v_neededCount v_rowCount v_due v_rowsOf out) args s 0 0 A) (F0 m 0 ls [])
set_option maxHeartbeats 4000000 in
set_option maxRecDepth 100000 in
theorem w_X2_uncovered_55 {p : Program} {l : Launch} {e : Env} {s : State} {m : MethodId} {args : Array Value} {below : List Frame} {meth : Method} {c : Code} {A : Nat → Prop} {dC : Nat → ClassId} {dI : Nat → Nat → Nat} {cB cI cJ cZ : ClassId} {a_this a_due a_rowsOf a_columnsOf a_colours a_clashesOf : Nat} {v_columnCount : Int32} {v_neededCount : Int32} {v_rowCount : Int32} {v_due : (Nat → Int32)} {v_rowsOf : (Nat → Int64)} {out : Int32 × Unit} (C0 : Cx RX2 cX2_uncovered (some .int) 6 wsX2_uncovered p s m args meth c A) (hK : va_K (dC, dI) vwCl (tysG cB cI cJ cZ) s) {k_6 : Int32 → Int64 → Int32 → Int32 → Option (Int32 × Unit)} (hk_6 : g_X2_uncovered_6 p l e s m args below meth c A dC dI cB cI cJ cZ a_this a_due a_rowsOf a_columnsOf a_colours a_clashesOf v_columnCount v_neededCount v_rowCount v_due v_rowsOf out k_6) : g_X2_uncovered_55 p l e s m args below meth c A dC dI cB cI cJ cZ a_this a_due a_rowsOf a_columnsOf a_colours a_clashesOf v_columnCount v_neededCount v_rowCount v_due v_rowsOf out (f_X2_uncovered_55 v_neededCount v_due v_rowsOf k_6) := by
  obtain ⟨hx, hb, hr, hml, hown, hts, hlocks, hA⟩ := id C0
  intro x1 x2 x4 x5 hf H locs hP hD hS ls hl
  replace hf : ((k_6 x1 x2 x4 (x5 + 1)) : Option (Int32 × Unit)) = some out := hf
  refine lv_iinc (v := (x5 + 1)) (lv' := [(5, .int (x5 + 1)), (0, .ref a_this), (1, .int x1), (2, .long x2), (4, .int x4)]) hx hb dX2_uncovered_55 hl (k := 4) rfl rfl (by decide) rfl (fun ls hl => ?_)
  refine lv_goto (tgt := 6) hx hb dX2_uncovered_58 (by decide) ?_
  exact hk_6 x1 x2 x4 (x5 + 1) hf _ _ hP hD hS ls (lv_sub hl [1, 2, 3, 4, 0] rfl)
set_option maxHeartbeats 4000000 in
set_option maxRecDepth 100000 in
theorem w_X2_uncovered_6 {p : Program} {l : Launch} {e : Env} {s : State} {m : MethodId} {args : Array Value} {below : List Frame} {meth : Method} {c : Code} {A : Nat → Prop} {dC : Nat → ClassId} {dI : Nat → Nat → Nat} {cB cI cJ cZ : ClassId} {a_this a_due a_rowsOf a_columnsOf a_colours a_clashesOf : Nat} {v_columnCount : Int32} {v_neededCount : Int32} {v_rowCount : Int32} {v_due : (Nat → Int32)} {v_rowsOf : (Nat → Int64)} {out : Int32 × Unit} (C0 : Cx RX2 cX2_uncovered (some .int) 6 wsX2_uncovered p s m args meth c A) (hK : va_K (dC, dI) vwCl (tysG cB cI cJ cZ) s)  : ∀ n : Nat, g_X2_uncovered_6 p l e s m args below meth c A dC dI cB cI cJ cZ a_this a_due a_rowsOf a_columnsOf a_colours a_clashesOf v_columnCount v_neededCount v_rowCount v_due v_rowsOf out (f_X2_uncovered_6 v_neededCount v_due v_rowsOf  n) := by
  obtain ⟨hx, hb, hr, hml, hown, hts, hlocks, hA⟩ := id C0
  intro n
  induction n with
  | zero =>
    intro x1 x2 x4 x5 hf H locs hP hD hS ls hl
    exact nomatch (show (none : Option (Int32 × Unit)) = some out from hf)
  | succ n ih =>
    intro x1 x2 x4 x5 hf H locs hP hD hS ls hl
    replace hf : ((if v_neededCount ≤ x5 then
  (some ((x4, ())))
  else
  (if ((x1 >>> (x5 &&& 31)) &&& (1 : Int32)) = 0 then
  (f_X2_uncovered_55 v_neededCount v_due v_rowsOf (f_X2_uncovered_6 v_neededCount v_due v_rowsOf n) x1 x2 x4 x5)
  else
  (if (x5 < 0 ∨ 24 ≤ Int32.toNatClampNeg x5) then none else
  (f_J13_bitCount_95d88 ((v_rowsOf (Int32.toNatClampNeg x5)) &&& x2)).bind (fun o_4 =>
  if (x5 < 0 ∨ 24 ≤ Int32.toNatClampNeg x5) then none else
  if (v_due (Int32.toNatClampNeg x5)) ≤ o_4.1 then
  (f_X2_uncovered_55 v_neededCount v_due v_rowsOf (f_X2_uncovered_6 v_neededCount v_due v_rowsOf n) x1 x2 x4 x5)
  else
  (f_X2_uncovered_55 v_neededCount v_due v_rowsOf (f_X2_uncovered_6 v_neededCount v_due v_rowsOf n) x1 x2 (x4 ||| ((1 : Int32) <<< (x5 &&& 31))) x5))))) : Option (Int32 × Unit)) = some out := hf
    refine lv_iload hx hb dX2_uncovered_6 (lv_at hl 4 rfl) ?_
    refine lv_aload_n hx hb dX2_uncovered_8 rfl (lv_at hl 0 rfl) ?_
    refine va_get (D := (dC, dI)) (ci := 3) (v := .int v_neededCount) (C := RX2) (T := TX2) (N := 8) hx hb hts in_X2_uncovered_X2 hown hK hP 0 rfl rfl 1 (by decide) (hts (.fieldLink RX2 30 "LinkedCovers$Table" "neededCount" "I") lk_X2_uncovered_f30) (fun _ h9 => h9) rfl dX2_uncovered_9 ?_
    refine lv_icmp_ge (tgt := 61) hx hb dX2_uncovered_12 (by decide) (fun c_1 => ?_) (fun c_1 => ?_)
    · replace hf := (if_pos c_1).symm.trans hf
      refine lv_iload hx hb dX2_uncovered_61 (lv_at hl 3 rfl) ?_
      have h9 := Option.some.inj hf
      have h8 := congrArg Prod.fst h9
      have h7 := congrArg Prod.snd h9
      exact W.iret (v := x4) hx hb hr (fun t ht hW => ⟨⟨x4, (), rfl, ⟨h8, h7⟩, by rw [ht]; exact hP, va_K.moved hW.alike hK, hD⟩, hS.F ht⟩) hS.2.2 dX2_uncovered_63
    · replace hf := (if_neg c_1).symm.trans hf
      refine lv_iload_n hx hb dX2_uncovered_15 rfl (lv_at hl 1 rfl) ?_
      refine lv_iload hx hb dX2_uncovered_16 (lv_at hl 4 rfl) ?_
      refine lv_ishr hx hb dX2_uncovered_18 ?_
      refine lv_iconst (v := 1) hx hb dX2_uncovered_19 (by decide) ?_
      refine lv_iand hx hb dX2_uncovered_20 ?_
      refine lv_if_eq (tgt := 55) hx hb dX2_uncovered_21 (by decide) (fun c_2 => ?_) (fun c_2 => ?_)
      · replace hf := (if_pos c_2).symm.trans hf
        exact w_X2_uncovered_55 C0 hK ih x1 x2 x4 x5 hf _ _ hP hD hS ls (lv_sub hl [0, 1, 2, 3, 4] rfl)
      · replace hf := (if_neg c_2).symm.trans hf
        refine lv_aload_n hx hb dX2_uncovered_24 rfl (lv_at hl 0 rfl) ?_
        refine va_get (D := (dC, dI)) (ci := 3) (v := .ref a_rowsOf) (C := RX2) (T := TX2) (N := 8) hx hb hts in_X2_uncovered_X2 hown hK hP 0 rfl rfl 5 (by decide) (hts (.fieldLink RX2 19 "LinkedCovers$Table" "rowsOf" "[J") lk_X2_uncovered_f19) (fun _ h9 => h9) rfl dX2_uncovered_25 ?_
        refine lv_iload hx hb dX2_uncovered_28 (lv_at hl 4 rfl) ?_
        obtain ⟨h_3, hf⟩ := gd_ck hf
        refine va_lald hx hb hK hP 2 2 rfl rfl h_3 dX2_uncovered_30 ?_
        refine lv_lload_n hx hb dX2_uncovered_31 rfl (lv_at hl 2 rfl) ?_
        refine lv_land hx hb dX2_uncovered_32 ?_
        obtain ⟨o_4, ho_4, hf⟩ := gd_bd hf
        have hPc := hP.sub (ws' := ws_J13_bitCount_95d88 cB cI cJ cZ  ) [] rfl
        have hDc := hD.sub (ws' := ws_J13_bitCount_95d88 cB cI cJ cZ  ) [] (by decide) rfl
        have hFc := va_free (wc := ws_J13_bitCount_95d88 cB cI cJ cZ  ) hD hS hA [] rfl
        refine va_calli (va_runS (As := [.long ((v_rowsOf (Int32.toNatClampNeg x5)) &&& x2)]) (rest := []) ⟨hx, hb, hml, hown, hts⟩ (c_J13_bitCount_95d88 l dC dI cB cI cJ cZ H.size ((v_rowsOf (Int32.toNatClampNeg x5)) &&& x2) o_4 ho_4) (va_cwS 1 hts gX2_uncovered_J13_bitCount_95d88 rfl rfl rfl nd_J13_bitCount_95d88 ⟨Nat.le_of_ble_eq_true rfl, Nat.le_of_ble_eq_true rfl⟩) ⟨fun a U g mk q => by obtain ⟨q0, q1, qP, qK, qD⟩ := q; exact ⟨q0, q1, qP, va_K.moved (u := U) (U := U.calling g mk a) (Vm.Alike.refl U.vm) qK, qD⟩, fun U hU hW => ⟨rfl, by rw [hU], by rw [hU]; exact hPc, va_K.moved hW.alike hK, hDc.weaken (fun _ _ _ _ => trivial)⟩⟩ rfl rfl hl.1 rfl (lv_room (Nat.le_of_ble_eq_true rfl)) dX2_uncovered_33 ⟨Nat.le_of_ble_eq_true rfl, Nat.le_of_ble_eq_true rfl⟩) hS (fun q _ h => hFc q h) hFc (fun r_4 u_4 t H1 locs ht hvm hw hB hz1 hk1 hS => ?_)
        obtain ⟨rfl, rfl⟩ := hw
        obtain ⟨hP1, hK1, hD1⟩ := hB
        rw [ht] at hP1
        obtain ⟨hP, hD⟩ := va_join (wr := [(a_this, .inr (3, [.int v_columnCount, .int v_neededCount, .ref a_due, .ref a_columnsOf, .ref a_colours, .ref a_rowsOf, .ref a_clashesOf, .int v_rowCount])), (a_due, .inl (cI, 24, .inl v_due)), (a_rowsOf, .inl (cJ, 24, .inr (.inl v_rowsOf)))]) (w1 := ws_J13_bitCount_95d88 cB cI cJ cZ  ) hP hD [] [0, 1, 2] rfl rfl (by decide) (by decide) hk1 hFc hP1 hD1
        generalize H1 = H at hP hS ⊢
        have hP : va_P (dC, dI) vwCl (ws_X2_uncovered cB cI cJ cZ a_this a_due a_rowsOf a_columnsOf a_colours a_clashesOf v_columnCount v_neededCount v_rowCount v_due v_rowsOf) H := hP.sub [0, 1, 2] rfl
        have hD : va_D A (ws_X2_uncovered cB cI cJ cZ a_this a_due a_rowsOf a_columnsOf a_colours a_clashesOf v_columnCount v_neededCount v_rowCount v_due v_rowsOf) := hD.sub [0, 1, 2] (by decide) rfl
        refine lv_aload_n hx hb dX2_uncovered_36 rfl (lv_at hl 0 rfl) ?_
        refine va_get (D := (dC, dI)) (ci := 3) (v := .ref a_due) (C := RX2) (T := TX2) (N := 8) hx hb hts in_X2_uncovered_X2 hown hK hP 0 rfl rfl 2 (by decide) (hts (.fieldLink RX2 33 "LinkedCovers$Table" "due" "[I") lk_X2_uncovered_f33) (fun _ h9 => h9) rfl dX2_uncovered_37 ?_
        refine lv_iload hx hb dX2_uncovered_40 (lv_at hl 4 rfl) ?_
        obtain ⟨h_5, hf⟩ := gd_ck hf
        refine va_iald hx hb hK hP 1 1 rfl rfl h_5 dX2_uncovered_42 ?_
        refine lv_icmp_ge (tgt := 55) hx hb dX2_uncovered_43 (by decide) (fun c_6 => ?_) (fun c_6 => ?_)
        · replace hf := (if_pos c_6).symm.trans hf
          exact w_X2_uncovered_55 C0 hK ih x1 x2 x4 x5 hf _ _ hP hD hS ls (lv_sub hl [0, 1, 2, 3, 4] rfl)
        · replace hf := (if_neg c_6).symm.trans hf
          refine lv_iload hx hb dX2_uncovered_46 (lv_at hl 3 rfl) ?_
          refine lv_iconst (v := 1) hx hb dX2_uncovered_48 (by decide) ?_
          refine lv_iload hx hb dX2_uncovered_49 (lv_at hl 4 rfl) ?_
          refine lv_ishl hx hb dX2_uncovered_51 ?_
          refine lv_ior hx hb dX2_uncovered_52 ?_
          refine lv_istore (lv' := [(4, .int (x4 ||| ((1 : Int32) <<< (x5 &&& 31)))), (0, .ref a_this), (1, .int x1), (2, .long x2), (5, .int x5)]) hx hb dX2_uncovered_53 hl (by decide) rfl (fun ls hl => ?_)
          exact w_X2_uncovered_55 C0 hK ih x1 x2 (x4 ||| ((1 : Int32) <<< (x5 &&& 31))) x5 hf _ _ hP hD hS ls (lv_sub hl [1, 2, 3, 0, 4] rfl)
set_option maxHeartbeats 4000000 in
set_option maxRecDepth 100000 in
theorem w_X2_uncovered_0 {p : Program} {l : Launch} {e : Env} {s : State} {m : MethodId} {args : Array Value} {below : List Frame} {meth : Method} {c : Code} {A : Nat → Prop} {dC : Nat → ClassId} {dI : Nat → Nat → Nat} {cB cI cJ cZ : ClassId} {a_this a_due a_rowsOf a_columnsOf a_colours a_clashesOf : Nat} {v_columnCount : Int32} {v_neededCount : Int32} {v_rowCount : Int32} {v_due : (Nat → Int32)} {v_rowsOf : (Nat → Int64)} {out : Int32 × Unit} (C0 : Cx RX2 cX2_uncovered (some .int) 6 wsX2_uncovered p s m args meth c A) (hK : va_K (dC, dI) vwCl (tysG cB cI cJ cZ) s)  : g_X2_uncovered_0 p l e s m args below meth c A dC dI cB cI cJ cZ a_this a_due a_rowsOf a_columnsOf a_colours a_clashesOf v_columnCount v_neededCount v_rowCount v_due v_rowsOf out (f_X2_uncovered v_neededCount v_due v_rowsOf ) := by
  obtain ⟨hx, hb, hr, hml, hown, hts, hlocks, hA⟩ := id C0
  intro x1 x2 hf H locs hP hD hS ls hl
  replace hf : ((f_X2_uncovered_6 v_neededCount v_due v_rowsOf 1000000 x1 x2 (0 : Int32) (0 : Int32)) : Option (Int32 × Unit)) = some out := hf
  refine lv_iconst (v := 0) hx hb dX2_uncovered_0 (by decide) ?_
  refine lv_istore (lv' := [(4, .int (0 : Int32)), (0, .ref a_this), (1, .int x1), (2, .long x2)]) hx hb dX2_uncovered_1 hl (by decide) rfl (fun ls hl => ?_)
  refine lv_iconst (v := 0) hx hb dX2_uncovered_3 (by decide) ?_
  refine lv_istore (lv' := [(5, .int (0 : Int32)), (4, .int (0 : Int32)), (0, .ref a_this), (1, .int x1), (2, .long x2)]) hx hb dX2_uncovered_4 hl (by decide) rfl (fun ls hl => ?_)
  exact w_X2_uncovered_6 C0 hK 1000000 x1 x2 (0 : Int32) (0 : Int32) hf _ _ hP hD hS ls (lv_sub hl [2, 3, 4, 1, 0] rfl)
theorem nd_X2_uncovered : yX2_uncovered.cls ≠ "java/lang/invoke/MethodHandle" ∧ yX2_uncovered.cls ≠ "java/lang/invoke/VarHandle" ∧ (parseMethodDescriptor yX2_uncovered.desc).map (fun d => d.parameters.length) = some 2 := by decide +kernel
set_option maxHeartbeats 4000000 in
set_option maxRecDepth 100000 in
theorem c_X2_uncovered (l : Launch) (dC : Nat → ClassId) (dI : Nat → Nat → Nat) (cB cI cJ cZ : ClassId) (a_this a_due a_rowsOf a_columnsOf a_colours a_clashesOf : Nat) (sz : Nat) (v_columnCount : Int32) (v_neededCount : Int32) (v_rowCount : Int32) (v_due : (Nat → Int32)) (v_rowsOf : (Nat → Int64)) (x1 : Int32) (x2 : Int64) (out : Int32 × Unit) (hf : f_X2_uncovered v_neededCount v_due v_rowsOf x1 x2 = some out) : Met l yX2_uncovered wsX2_uncovered rm_X2_uncovered (va_Pc [.ref a_this, .int x1, .long x2] (fun U => U.heap.size = sz ∧ va_P (dC, dI) vwCl (ws_X2_uncovered cB cI cJ cZ a_this a_due a_rowsOf a_columnsOf a_colours a_clashesOf v_columnCount v_neededCount v_rowCount v_due v_rowsOf) U.heap ∧ va_K (dC, dI) vwCl (tysG cB cI cJ cZ) U ∧ va_D (fun _ => True) (ws_X2_uncovered cB cI cJ cZ a_this a_due a_rowsOf a_columnsOf a_colours a_clashesOf v_columnCount v_neededCount v_rowCount v_due v_rowsOf))) (qc_X2_uncovered (va_A (ws_X2_uncovered cB cI cJ cZ a_this a_due a_rowsOf a_columnsOf a_colours a_clashesOf v_columnCount v_neededCount v_rowCount v_due v_rowsOf) sz) dC dI cB cI cJ cZ a_this a_due a_rowsOf a_columnsOf a_colours a_clashesOf v_columnCount v_neededCount v_rowCount v_due v_rowsOf out) 0 0 (va_A (ws_X2_uncovered cB cI cJ cZ a_this a_due a_rowsOf a_columnsOf a_colours a_clashesOf v_columnCount v_neededCount v_rowCount v_due v_rowsOf) sz) := by
  refine Met.ofW (cc := cX2_uncovered) (maxL := 6) (ret := (some .int)) (by decide) rfl ?_
  intro p e s m args below meth c s₁ B hml hv
  obtain ⟨rfl, hsz, hP, hK, hD0⟩ := hv
  subst hsz
  have hD := hD0.self (sz := s.heap.size)
  generalize hAe : va_A (ws_X2_uncovered cB cI cJ cZ a_this a_due a_rowsOf a_columnsOf a_colours a_clashesOf v_columnCount v_neededCount v_rowCount v_due v_rowsOf) s.heap.size = A at hD ⊢
  have hA : ∀ q : Nat, s.heap.size ≤ q → A q := fun q h => by rw [← hAe]; exact Or.inr h
  have hl := lv_entry ([.ref a_this, .int x1, .long x2]) (n := 6) (Nat.le_of_ble_eq_true rfl)
  rw [lg_entry_eq]
  generalize (lg_sl ([.ref a_this, .int x1, .long x2]) ++ List.replicate (6 - (lg_sl ([.ref a_this, .int x1, .long x2])).length) Slot.unset).toArray = ls at hl ⊢
  have hl : lv_has ls 6 [(0, .ref a_this), (1, .int x1), (2, .long x2)] := hl
  exact w_X2_uncovered_0 ⟨B.exec, B.bytes, B.returns, hml, findClass_of_methodNamed B.named, atoms_spec (ws := wsX2_uncovered) B.pre, B.notSynchronized, hA⟩ hK x1 x2 hf _ _ hP hD va_S.rf ls (lv_sub hl [0, 1, 2] rfl)
