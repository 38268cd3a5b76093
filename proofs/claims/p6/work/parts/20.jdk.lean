-- J6.bitCount(I)I: 42 instructions
abbrev ws_J6_bitCount_0f7a4 (cB cI cJ cZ : ClassId)  : va_W := []
abbrev rm_J6_bitCount_0f7a4 : Room := { frames := 0, cells := 0, slots := 0, locals := 0 }
theorem lk_J6_bitCount_0f7a4_c267 : Cond.constant RJ6 267 (252645135) ∈ wsJ6_bitCount_0f7a4 := by decide +kernel
theorem lk_J6_bitCount_0f7a4_c266 : Cond.constant RJ6 266 (858993459) ∈ wsJ6_bitCount_0f7a4 := by decide +kernel
theorem lk_J6_bitCount_0f7a4_c265 : Cond.constant RJ6 265 (1431655765) ∈ wsJ6_bitCount_0f7a4 := by decide +kernel
def f_J6_bitCount_0f7a4_48   (x0 : Int32) : Option (Int32 × Unit) :=
  some (((x0 &&& (63 : Int32)), ()))
def f_J6_bitCount_0f7a4_41   (x0 : Int32) : Option (Int32 × Unit) :=
  f_J6_bitCount_0f7a4_48 (x0 + (Int32.toUInt32 x0 >>> (Int32.toUInt32 (16 : Int32) &&& Int32.toUInt32 31)).toInt32)
def f_J6_bitCount_0f7a4_34   (x0 : Int32) : Option (Int32 × Unit) :=
  f_J6_bitCount_0f7a4_41 (x0 + (Int32.toUInt32 x0 >>> (Int32.toUInt32 (8 : Int32) &&& Int32.toUInt32 31)).toInt32)
def f_J6_bitCount_0f7a4_24   (x0 : Int32) : Option (Int32 × Unit) :=
  f_J6_bitCount_0f7a4_34 ((x0 + (Int32.toUInt32 x0 >>> (Int32.toUInt32 (4 : Int32) &&& Int32.toUInt32 31)).toInt32) &&& (252645135 : Int32))
def f_J6_bitCount_0f7a4_10   (x0 : Int32) : Option (Int32 × Unit) :=
  f_J6_bitCount_0f7a4_24 ((x0 &&& (858993459 : Int32)) + ((Int32.toUInt32 x0 >>> (Int32.toUInt32 (2 : Int32) &&& Int32.toUInt32 31)).toInt32 &&& (858993459 : Int32)))
def f_J6_bitCount_0f7a4   (x0 : Int32) : Option (Int32 × Unit) :=
  f_J6_bitCount_0f7a4_10 (x0 - ((Int32.toUInt32 x0 >>> (Int32.toUInt32 (1 : Int32) &&& Int32.toUInt32 31)).toInt32 &&& (1431655765 : Int32)))
abbrev qc_J6_bitCount_0f7a4 (A : Nat → Prop) (dC : Nat → ClassId) (dI : Nat → Nat → Nat) (cB cI cJ cZ : ClassId)  (out : Int32 × Unit) : Array Value → State → Outcome → State → Prop := va_Qi (fun (r : Int32) (u : Unit) => r = out.1 ∧ u = out.2) (fun (u : Unit) (t : State) => va_P (dC, dI) vwCl (ws_J6_bitCount_0f7a4 cB cI cJ cZ  ) t.heap ∧ va_K (dC, dI) vwCl (tysG cB cI cJ cZ) t ∧ va_D A (ws_J6_bitCount_0f7a4 cB cI cJ cZ  )) A
abbrev g_J6_bitCount_0f7a4_48 (p : Program) (l : Launch) (e : Env) (s : State) (m : MethodId) (args : Array Value) (below : List Frame) (meth : Method) (c : Code) (A : Nat → Prop) (dC : Nat → ClassId) (dI : Nat → Nat → Nat) (cB cI cJ cZ : ClassId)  (out : Int32 × Unit) (k : Int32 → Option (Int32 × Unit)) : Prop := ∀ (x0 : Int32), k x0 = some out → ∀ (H : Heap) (locs : List Loc), va_P (dC, dI) vwCl (ws_J6_bitCount_0f7a4 cB cI cJ cZ  ) H → va_D A (ws_J6_bitCount_0f7a4 cB cI cJ cZ  ) → va_S A s.heap H locs → ∀ (ls : Array Slot), lv_has ls 1 [(0, .int x0)] → W p l e (headSpec wsJ6_bitCount_0f7a4 rm_J6_bitCount_0f7a4).room s m args below meth c H locs 0 0 (MQ below (qc_J6_bitCount_0f7a4 A dC dI cB cI cJ cZ   out) args s 0 0 A) (F0 m 48 ls [])
abbrev g_J6_bitCount_0f7a4_41 (p : Program) (l : Launch) (e : Env) (s : State) (m : MethodId) (args : Array Value) (below : List Frame) (meth : Method) (c : Code) (A : Nat → Prop) (dC : Nat → ClassId) (dI : Nat → Nat → Nat) (cB cI cJ cZ : ClassId)  (out : Int32 × Unit) (k : Int32 → Option (Int32 × Unit)) : Prop := ∀ (x0 : Int32), k x0 = some out → ∀ (H : Heap) (locs : List Loc), va_P (dC, dI) vwCl (ws_J6_bitCount_0f7a4 cB cI cJ cZ  ) H → va_D A (ws_J6_bitCount_0f7a4 cB cI cJ cZ  ) → va_S A s.heap H locs → ∀ (ls : Array Slot), lv_has ls 1 [(0, .int x0)] → W p l e (headSpec wsJ6_bitCount_0f7a4 rm_J6_bitCount_0f7a4).room s m args below meth c H locs 0 0 (MQ below (qc_J6_bitCount_0f7a4 A dC dI cB cI cJ cZ   out) args s 0 0 A) (F0 m 41 ls [])
abbrev g_J6_bitCount_0f7a4_34 (p : Program) (l : Launch) (e : Env) (s : State) (m : MethodId) (args : Array Value) (below : List Frame) (meth : Method) (c : Code) (A : Nat → Prop) (dC : Nat → ClassId) (dI : Nat → Nat → Nat) (cB cI cJ cZ : ClassId)  (out : Int32 × Unit) (k : Int32 → Option (Int32 × Unit)) : Prop := ∀ (x0 : Int32), k x0 = some out → ∀ (H : Heap) (locs : List Loc), va_P (dC, dI) vwCl (ws_J6_bitCount_0f7a4 cB cI cJ cZ  ) H → va_D A (ws_J6_bitCount_0f7a4 cB cI cJ cZ  ) → va_S A s.heap H locs → ∀ (ls : Array Slot), lv_has ls 1 [(0, .int x0)] → W p l e (headSpec wsJ6_bitCount_0f7a4 rm_J6_bitCount_0f7a4).room s m args below meth c H locs 0 0 (MQ below (qc_J6_bitCount_0f7a4 A dC dI cB cI cJ cZ   out) args s 0 0 A) (F0 m 34 ls [])
abbrev g_J6_bitCount_0f7a4_24 (p : Program) (l : Launch) (e : Env) (s : State) (m : MethodId) (args : Array Value) (below : List Frame) (meth : Method) (c : Code) (A : Nat → Prop) (dC : Nat → ClassId) (dI : Nat → Nat → Nat) (cB cI cJ cZ : ClassId)  (out : Int32 × Unit) (k : Int32 → Option (Int32 × Unit)) : Prop := ∀ (x0 : Int32), k x0 = some out → ∀ (H : Heap) (locs : List Loc), va_P (dC, dI) vwCl (ws_J6_bitCount_0f7a4 cB cI cJ cZ  ) H → va_D A (ws_J6_bitCount_0f7a4 cB cI cJ cZ  ) → va_S A s.heap H locs → ∀ (ls : Array Slot), lv_has ls 1 [(0, .int x0)] → W p l e (headSpec wsJ6_bitCount_0f7a4 rm_J6_bitCount_0f7a4).room s m args below meth c H locs 0 0 (MQ below (qc_J6_bitCount_0f7a4 A dC dI cB cI cJ cZ   out) args s 0 0 A) (F0 m 24 ls [])
abbrev g_J6_bitCount_0f7a4_10 (p : Program) (l : Launch) (e : Env) (s : State) (m : MethodId) (args : Array Value) (below : List Frame) (meth : Method) (c : Code) (A : Nat → Prop) (dC : Nat → ClassId) (dI : Nat → Nat → Nat) (cB cI cJ cZ : ClassId)  (out : Int32 × Unit) (k : Int32 → Option (Int32 × Unit)) : Prop := ∀ (x0 : Int32), k x0 = some out → ∀ (H : Heap) (locs : List Loc), va_P (dC, dI) vwCl (ws_J6_bitCount_0f7a4 cB cI cJ cZ  ) H → va_D A (ws_J6_bitCount_0f7a4 cB cI cJ cZ  ) → va_S A s.heap H locs → ∀ (ls : Array Slot), lv_has ls 1 [(0, .int x0)] → W p l e (headSpec wsJ6_bitCount_0f7a4 rm_J6_bitCount_0f7a4).room s m args below meth c H locs 0 0 (MQ below (qc_J6_bitCount_0f7a4 A dC dI cB cI cJ cZ   out) args s 0 0 A) (F0 m 10 ls [])
abbrev g_J6_bitCount_0f7a4_0 (p : Program) (l : Launch) (e : Env) (s : State) (m : MethodId) (args : Array Value) (below : List Frame) (meth : Method) (c : Code) (A : Nat → Prop) (dC : Nat → ClassId) (dI : Nat → Nat → Nat) (cB cI cJ cZ : ClassId)  (out : Int32 × Unit) (k : Int32 → Option (Int32 × Unit)) : Prop := ∀ (x0 : Int32), k x0 = some out → ∀ (H : Heap) (locs : List Loc), va_P (dC, dI) vwCl (ws_J6_bitCount_0f7a4 cB cI cJ cZ  ) H → va_D A (ws_J6_bitCount_0f7a4 cB cI cJ cZ  ) → va_S A s.heap H locs → ∀ (ls : Array Slot), lv_has ls 1 [(0, .int x0)] → W p l e (headSpec wsJ6_bitCount_0f7a4 rm_J6_bitCount_0f7a4).room s m args below meth c H locs 0 0 (MQ below (qc_J6_bitCount_0f7a4 A dC dI cB cI cJ cZ   out) args s 0 0 A) (F0 m 0 ls [])
set_option maxHeartbeats 4000000 in
set_option maxRecDepth 100000 in
theorem w_J6_bitCount_0f7a4_48 {p : Program} {l : Launch} {e : Env} {s : State} {m : MethodId} {args : Array Value} {below : List Frame} {meth : Method} {c : Code} {A : Nat → Prop} {dC : Nat → ClassId} {dI : Nat → Nat → Nat} {cB cI cJ cZ : ClassId}  {out : Int32 × Unit} (C0 : Cx RJ6 cJ6_bitCount_0f7a4 (some .int) 1 wsJ6_bitCount_0f7a4 p s m args meth c A) (hK : va_K (dC, dI) vwCl (tysG cB cI cJ cZ) s)  : g_J6_bitCount_0f7a4_48 p l e s m args below meth c A dC dI cB cI cJ cZ   out (f_J6_bitCount_0f7a4_48  ) := by
  obtain ⟨hx, hb, hr, hml, hown, hts, hlocks, hA⟩ := id C0
  intro x0 hf H locs hP hD hS ls hl
  replace hf : ((some (((x0 &&& (63 : Int32)), ()))) : Option (Int32 × Unit)) = some out := hf
  refine lv_iload_n hx hb dJ6_bitCount_0f7a4_48 rfl (lv_at hl 0 rfl) ?_
  refine lv_bipush (v := 63) hx hb dJ6_bitCount_0f7a4_49 (by decide) ?_
  refine lv_iand hx hb dJ6_bitCount_0f7a4_51 ?_
  have h9 := Option.some.inj hf
  have h8 := congrArg Prod.fst h9
  have h7 := congrArg Prod.snd h9
  exact W.iret (v := (x0 &&& (63 : Int32))) hx hb hr (fun t ht hW => ⟨⟨(x0 &&& (63 : Int32)), (), rfl, ⟨h8, h7⟩, by rw [ht]; exact hP, va_K.moved hW.alike hK, hD⟩, hS.F ht⟩) hS.2.2 dJ6_bitCount_0f7a4_52
set_option maxHeartbeats 4000000 in
set_option maxRecDepth 100000 in
theorem w_J6_bitCount_0f7a4_41 {p : Program} {l : Launch} {e : Env} {s : State} {m : MethodId} {args : Array Value} {below : List Frame} {meth : Method} {c : Code} {A : Nat → Prop} {dC : Nat → ClassId} {dI : Nat → Nat → Nat} {cB cI cJ cZ : ClassId}  {out : Int32 × Unit} (C0 : Cx RJ6 cJ6_bitCount_0f7a4 (some .int) 1 wsJ6_bitCount_0f7a4 p s m args meth c A) (hK : va_K (dC, dI) vwCl (tysG cB cI cJ cZ) s)  : g_J6_bitCount_0f7a4_41 p l e s m args below meth c A dC dI cB cI cJ cZ   out (f_J6_bitCount_0f7a4_41  ) := by
  obtain ⟨hx, hb, hr, hml, hown, hts, hlocks, hA⟩ := id C0
  intro x0 hf H locs hP hD hS ls hl
  replace hf : ((f_J6_bitCount_0f7a4_48 (x0 + (Int32.toUInt32 x0 >>> (Int32.toUInt32 (16 : Int32) &&& Int32.toUInt32 31)).toInt32)) : Option (Int32 × Unit)) = some out := hf
  refine lv_iload_n hx hb dJ6_bitCount_0f7a4_41 rfl (lv_at hl 0 rfl) ?_
  refine lv_iload_n hx hb dJ6_bitCount_0f7a4_42 rfl (lv_at hl 0 rfl) ?_
  refine lv_bipush (v := 16) hx hb dJ6_bitCount_0f7a4_43 (by decide) ?_
  refine lv_iushr (v := (Int32.toUInt32 x0 >>> (Int32.toUInt32 (16 : Int32) &&& Int32.toUInt32 31)).toInt32) hx hb dJ6_bitCount_0f7a4_45 rfl ?_
  refine lv_iadd hx hb dJ6_bitCount_0f7a4_46 ?_
  refine lv_istore_n (lv' := [(0, .int (x0 + (Int32.toUInt32 x0 >>> (Int32.toUInt32 (16 : Int32) &&& Int32.toUInt32 31)).toInt32))]) hx hb dJ6_bitCount_0f7a4_47 rfl hl (by decide) rfl (fun ls hl => ?_)
  exact w_J6_bitCount_0f7a4_48 C0 hK (x0 + (Int32.toUInt32 x0 >>> (Int32.toUInt32 (16 : Int32) &&& Int32.toUInt32 31)).toInt32) hf _ _ hP hD hS ls (lv_sub hl [0] rfl)
set_option maxHeartbeats 4000000 in
set_option maxRecDepth 100000 in
theorem w_J6_bitCount_0f7a4_34 {p : Program} {l : Launch} {e : Env} {s : State} {m : MethodId} {args : Array Value} {below : List Frame} {meth : Method} {c : Code} {A : Nat → Prop} {dC : Nat → ClassId} {dI : Nat → Nat → Nat} {cB cI cJ cZ : ClassId}  {out : Int32 × Unit} (C0 : Cx RJ6 cJ6_bitCount_0f7a4 (some .int) 1 wsJ6_bitCount_0f7a4 p s m args meth c A) (hK : va_K (dC, dI) vwCl (tysG cB cI cJ cZ) s)  : g_J6_bitCount_0f7a4_34 p l e s m args below meth c A dC dI cB cI cJ cZ   out (f_J6_bitCount_0f7a4_34  ) := by
  obtain ⟨hx, hb, hr, hml, hown, hts, hlocks, hA⟩ := id C0
  intro x0 hf H locs hP hD hS ls hl
  replace hf : ((f_J6_bitCount_0f7a4_41 (x0 + (Int32.toUInt32 x0 >>> (Int32.toUInt32 (8 : Int32) &&& Int32.toUInt32 31)).toInt32)) : Option (Int32 × Unit)) = some out := hf
  refine lv_iload_n hx hb dJ6_bitCount_0f7a4_34 rfl (lv_at hl 0 rfl) ?_
  refine lv_iload_n hx hb dJ6_bitCount_0f7a4_35 rfl (lv_at hl 0 rfl) ?_
  refine lv_bipush (v := 8) hx hb dJ6_bitCount_0f7a4_36 (by decide) ?_
  refine lv_iushr (v := (Int32.toUInt32 x0 >>> (Int32.toUInt32 (8 : Int32) &&& Int32.toUInt32 31)).toInt32) hx hb dJ6_bitCount_0f7a4_38 rfl ?_
  refine lv_iadd hx hb dJ6_bitCount_0f7a4_39 ?_
  refine lv_istore_n (lv' := [(0, .int (x0 + (Int32.toUInt32 x0 >>> (Int32.toUInt32 (8 : Int32) &&& Int32.toUInt32 31)).toInt32))]) hx hb dJ6_bitCount_0f7a4_40 rfl hl (by decide) rfl (fun ls hl => ?_)
  exact w_J6_bitCount_0f7a4_41 C0 hK (x0 + (Int32.toUInt32 x0 >>> (Int32.toUInt32 (8 : Int32) &&& Int32.toUInt32 31)).toInt32) hf _ _ hP hD hS ls (lv_sub hl [0] rfl)
set_option maxHeartbeats 4000000 in
set_option maxRecDepth 100000 in
theorem w_J6_bitCount_0f7a4_24 {p : Program} {l : Launch} {e : Env} {s : State} {m : MethodId} {args : Array Value} {below : List Frame} {meth : Method} {c : Code} {A : Nat → Prop} {dC : Nat → ClassId} {dI : Nat → Nat → Nat} {cB cI cJ cZ : ClassId}  {out : Int32 × Unit} (C0 : Cx RJ6 cJ6_bitCount_0f7a4 (some .int) 1 wsJ6_bitCount_0f7a4 p s m args meth c A) (hK : va_K (dC, dI) vwCl (tysG cB cI cJ cZ) s)  : g_J6_bitCount_0f7a4_24 p l e s m args below meth c A dC dI cB cI cJ cZ   out (f_J6_bitCount_0f7a4_24  ) := by
  obtain ⟨hx, hb, hr, hml, hown, hts, hlocks, hA⟩ := id C0
  intro x0 hf H locs hP hD hS ls hl
  replace hf : ((f_J6_bitCount_0f7a4_34 ((x0 + (Int32.toUInt32 x0 >>> (Int32.toUInt32 (4 : Int32) &&& Int32.toUInt32 31)).toInt32) &&& (252645135 : Int32))) : Option (Int32 × Unit)) = some out := hf
  refine lv_iload_n hx hb dJ6_bitCount_0f7a4_24 rfl (lv_at hl 0 rfl) ?_
  refine lv_iload_n hx hb dJ6_bitCount_0f7a4_25 rfl (lv_at hl 0 rfl) ?_
  refine lv_iconst (v := 4) hx hb dJ6_bitCount_0f7a4_26 (by decide) ?_
  refine lv_iushr (v := (Int32.toUInt32 x0 >>> (Int32.toUInt32 (4 : Int32) &&& Int32.toUInt32 31)).toInt32) hx hb dJ6_bitCount_0f7a4_27 rfl ?_
  refine lv_iadd hx hb dJ6_bitCount_0f7a4_28 ?_
  refine lv_ldcw hx hb hown (hts (.constant RJ6 267 (252645135)) lk_J6_bitCount_0f7a4_c267) dJ6_bitCount_0f7a4_29 ?_
  refine lv_iand hx hb dJ6_bitCount_0f7a4_32 ?_
  refine lv_istore_n (lv' := [(0, .int ((x0 + (Int32.toUInt32 x0 >>> (Int32.toUInt32 (4 : Int32) &&& Int32.toUInt32 31)).toInt32) &&& (252645135 : Int32)))]) hx hb dJ6_bitCount_0f7a4_33 rfl hl (by decide) rfl (fun ls hl => ?_)
  exact w_J6_bitCount_0f7a4_34 C0 hK ((x0 + (Int32.toUInt32 x0 >>> (Int32.toUInt32 (4 : Int32) &&& Int32.toUInt32 31)).toInt32) &&& (252645135 : Int32)) hf _ _ hP hD hS ls (lv_sub hl [0] rfl)
set_option maxHeartbeats 4000000 in
set_option maxRecDepth 100000 in
theorem w_J6_bitCount_0f7a4_10 {p : Program} {l : Launch} {e : Env} {s : State} {m : MethodId} {args : Array Value} {below : List Frame} {meth : Method} {c : Code} {A : Nat → Prop} {dC : Nat → ClassId} {dI : Nat → Nat → Nat} {cB cI cJ cZ : ClassId}  {out : Int32 × Unit} (C0 : Cx RJ6 cJ6_bitCount_0f7a4 (some .int) 1 wsJ6_bitCount_0f7a4 p s m args meth c A) (hK : va_K (dC, dI) vwCl (tysG cB cI cJ cZ) s)  : g_J6_bitCount_0f7a4_10 p l e s m args below meth c A dC dI cB cI cJ cZ   out (f_J6_bitCount_0f7a4_10  ) := by
  obtain ⟨hx, hb, hr, hml, hown, hts, hlocks, hA⟩ := id C0
  intro x0 hf H locs hP hD hS ls hl
  replace hf : ((f_J6_bitCount_0f7a4_24 ((x0 &&& (858993459 : Int32)) + ((Int32.toUInt32 x0 >>> (Int32.toUInt32 (2 : Int32) &&& Int32.toUInt32 31)).toInt32 &&& (858993459 : Int32)))) : Option (Int32 × Unit)) = some out := hf
  refine lv_iload_n hx hb dJ6_bitCount_0f7a4_10 rfl (lv_at hl 0 rfl) ?_
  refine lv_ldcw hx hb hown (hts (.constant RJ6 266 (858993459)) lk_J6_bitCount_0f7a4_c266) dJ6_bitCount_0f7a4_11 ?_
  refine lv_iand hx hb dJ6_bitCount_0f7a4_14 ?_
  refine lv_iload_n hx hb dJ6_bitCount_0f7a4_15 rfl (lv_at hl 0 rfl) ?_
  refine lv_iconst (v := 2) hx hb dJ6_bitCount_0f7a4_16 (by decide) ?_
  refine lv_iushr (v := (Int32.toUInt32 x0 >>> (Int32.toUInt32 (2 : Int32) &&& Int32.toUInt32 31)).toInt32) hx hb dJ6_bitCount_0f7a4_17 rfl ?_
  refine lv_ldcw hx hb hown (hts (.constant RJ6 266 (858993459)) lk_J6_bitCount_0f7a4_c266) dJ6_bitCount_0f7a4_18 ?_
  refine lv_iand hx hb dJ6_bitCount_0f7a4_21 ?_
  refine lv_iadd hx hb dJ6_bitCount_0f7a4_22 ?_
  refine lv_istore_n (lv' := [(0, .int ((x0 &&& (858993459 : Int32)) + ((Int32.toUInt32 x0 >>> (Int32.toUInt32 (2 : Int32) &&& Int32.toUInt32 31)).toInt32 &&& (858993459 : Int32))))]) hx hb dJ6_bitCount_0f7a4_23 rfl hl (by decide) rfl (fun ls hl => ?_)
  exact w_J6_bitCount_0f7a4_24 C0 hK ((x0 &&& (858993459 : Int32)) + ((Int32.toUInt32 x0 >>> (Int32.toUInt32 (2 : Int32) &&& Int32.toUInt32 31)).toInt32 &&& (858993459 : Int32))) hf _ _ hP hD hS ls (lv_sub hl [0] rfl)
set_option maxHeartbeats 4000000 in
set_option maxRecDepth 100000 in
theorem w_J6_bitCount_0f7a4_0 {p : Program} {l : Launch} {e : Env} {s : State} {m : MethodId} {args : Array Value} {below : List Frame} {meth : Method} {c : Code} {A : Nat → Prop} {dC : Nat → ClassId} {dI : Nat → Nat → Nat} {cB cI cJ cZ : ClassId}  {out : Int32 × Unit} (C0 : Cx RJ6 cJ6_bitCount_0f7a4 (some .int) 1 wsJ6_bitCount_0f7a4 p s m args meth c A) (hK : va_K (dC, dI) vwCl (tysG cB cI cJ cZ) s)  : g_J6_bitCount_0f7a4_0 p l e s m args below meth c A dC dI cB cI cJ cZ   out (f_J6_bitCount_0f7a4  ) := by
  obtain ⟨hx, hb, hr, hml, hown, hts, hlocks, hA⟩ := id C0
  intro x0 hf H locs hP hD hS ls hl
  replace hf : ((f_J6_bitCount_0f7a4_10 (x0 - ((Int32.toUInt32 x0 >>> (Int32.toUInt32 (1 : Int32) &&& Int32.toUInt32 31)).toInt32 &&& (1431655765 : Int32)))) : Option (Int32 × Unit)) = some out := hf
  refine lv_iload_n hx hb dJ6_bitCount_0f7a4_0 rfl (lv_at hl 0 rfl) ?_
  refine lv_iload_n hx hb dJ6_bitCount_0f7a4_1 rfl (lv_at hl 0 rfl) ?_
  refine lv_iconst (v := 1) hx hb dJ6_bitCount_0f7a4_2 (by decide) ?_
  refine lv_iushr (v := (Int32.toUInt32 x0 >>> (Int32.toUInt32 (1 : Int32) &&& Int32.toUInt32 31)).toInt32) hx hb dJ6_bitCount_0f7a4_3 rfl ?_
  refine lv_ldcw hx hb hown (hts (.constant RJ6 265 (1431655765)) lk_J6_bitCount_0f7a4_c265) dJ6_bitCount_0f7a4_4 ?_
  refine lv_iand hx hb dJ6_bitCount_0f7a4_7 ?_
  refine lv_isub hx hb dJ6_bitCount_0f7a4_8 ?_
  refine lv_istore_n (lv' := [(0, .int (x0 - ((Int32.toUInt32 x0 >>> (Int32.toUInt32 (1 : Int32) &&& Int32.toUInt32 31)).toInt32 &&& (1431655765 : Int32))))]) hx hb dJ6_bitCount_0f7a4_9 rfl hl (by decide) rfl (fun ls hl => ?_)
  exact w_J6_bitCount_0f7a4_10 C0 hK (x0 - ((Int32.toUInt32 x0 >>> (Int32.toUInt32 (1 : Int32) &&& Int32.toUInt32 31)).toInt32 &&& (1431655765 : Int32))) hf _ _ hP hD hS ls (lv_sub hl [0] rfl)
theorem nd_J6_bitCount_0f7a4 : yJ6_bitCount_0f7a4.cls ≠ "java/lang/invoke/MethodHandle" ∧ yJ6_bitCount_0f7a4.cls ≠ "java/lang/invoke/VarHandle" ∧ (parseMethodDescriptor yJ6_bitCount_0f7a4.desc).map (fun d => d.parameters.length) = some 1 := by decide +kernel
set_option maxHeartbeats 4000000 in
set_option maxRecDepth 100000 in
theorem c_J6_bitCount_0f7a4 (l : Launch) (dC : Nat → ClassId) (dI : Nat → Nat → Nat) (cB cI cJ cZ : ClassId) (sz : Nat)  (x0 : Int32) (out : Int32 × Unit) (hf : f_J6_bitCount_0f7a4  x0 = some out) : Met l yJ6_bitCount_0f7a4 wsJ6_bitCount_0f7a4 rm_J6_bitCount_0f7a4 (va_Pc [.int x0] (fun U => U.heap.size = sz ∧ va_P (dC, dI) vwCl (ws_J6_bitCount_0f7a4 cB cI cJ cZ  ) U.heap ∧ va_K (dC, dI) vwCl (tysG cB cI cJ cZ) U ∧ va_D (fun _ => True) (ws_J6_bitCount_0f7a4 cB cI cJ cZ  ))) (qc_J6_bitCount_0f7a4 (va_A (ws_J6_bitCount_0f7a4 cB cI cJ cZ  ) sz) dC dI cB cI cJ cZ   out) 0 0 (va_A (ws_J6_bitCount_0f7a4 cB cI cJ cZ  ) sz) := by
  refine Met.ofW (cc := cJ6_bitCount_0f7a4) (maxL := 1) (ret := (some .int)) (by decide) rfl ?_
  intro p e s m args below meth c s₁ B hml hv
  obtain ⟨rfl, hsz, hP, hK, hD0⟩ := hv
  subst hsz
  have hD := hD0.self (sz := s.heap.size)
  generalize hAe : va_A (ws_J6_bitCount_0f7a4 cB cI cJ cZ  ) s.heap.size = A at hD ⊢
  have hA : ∀ q : Nat, s.heap.size ≤ q → A q := fun q h => by rw [← hAe]; exact Or.inr h
  have hl := lv_entry ([.int x0]) (n := 1) (Nat.le_of_ble_eq_true rfl)
  rw [lg_entry_eq]
  generalize (lg_sl ([.int x0]) ++ List.replicate (1 - (lg_sl ([.int x0])).length) Slot.unset).toArray = ls at hl ⊢
  have hl : lv_has ls 1 [(0, .int x0)] := hl
  exact w_J6_bitCount_0f7a4_0 ⟨B.exec, B.bytes, B.returns, hml, findClass_of_methodNamed B.named, atoms_spec (ws := wsJ6_bitCount_0f7a4) B.pre, B.notSynchronized, hA⟩ hK x0 hf _ _ hP hD va_S.rf ls (lv_sub hl [0] rfl)
-- J13.bitCount(J)I: 49 instructions
abbrev ws_J13_bitCount_95d88 (cB cI cJ cZ : ClassId)  : va_W := []
abbrev rm_J13_bitCount_95d88 : Room := { frames := 0, cells := 0, slots := 0, locals := 0 }
theorem lk_J13_bitCount_95d88_c318 : Cond.constantLong RJ13 318 (1085102592571150095) ∈ wsJ13_bitCount_95d88 := by decide +kernel
theorem lk_J13_bitCount_95d88_c316 : Cond.constantLong RJ13 316 (3689348814741910323) ∈ wsJ13_bitCount_95d88 := by decide +kernel
theorem lk_J13_bitCount_95d88_c314 : Cond.constantLong RJ13 314 (6148914691236517205) ∈ wsJ13_bitCount_95d88 := by decide +kernel
def f_J13_bitCount_95d88_55   (x0 : Int64) : Option (Int32 × Unit) :=
  some ((((Int64.toInt32 x0) &&& (127 : Int32)), ()))
def f_J13_bitCount_95d88_48   (x0 : Int64) : Option (Int32 × Unit) :=
  f_J13_bitCount_95d88_55 (x0 + (Int64.toUInt64 x0 >>> (Int64.toUInt64 (Int32.toInt64 (32 : Int32)) &&& Int64.toUInt64 63)).toInt64)
def f_J13_bitCount_95d88_41   (x0 : Int64) : Option (Int32 × Unit) :=
  f_J13_bitCount_95d88_48 (x0 + (Int64.toUInt64 x0 >>> (Int64.toUInt64 (Int32.toInt64 (16 : Int32)) &&& Int64.toUInt64 63)).toInt64)
def f_J13_bitCount_95d88_34   (x0 : Int64) : Option (Int32 × Unit) :=
  f_J13_bitCount_95d88_41 (x0 + (Int64.toUInt64 x0 >>> (Int64.toUInt64 (Int32.toInt64 (8 : Int32)) &&& Int64.toUInt64 63)).toInt64)
def f_J13_bitCount_95d88_24   (x0 : Int64) : Option (Int32 × Unit) :=
  f_J13_bitCount_95d88_34 ((x0 + (Int64.toUInt64 x0 >>> (Int64.toUInt64 (Int32.toInt64 (4 : Int32)) &&& Int64.toUInt64 63)).toInt64) &&& (1085102592571150095 : Int64))
def f_J13_bitCount_95d88_10   (x0 : Int64) : Option (Int32 × Unit) :=
  f_J13_bitCount_95d88_24 ((x0 &&& (3689348814741910323 : Int64)) + ((Int64.toUInt64 x0 >>> (Int64.toUInt64 (Int32.toInt64 (2 : Int32)) &&& Int64.toUInt64 63)).toInt64 &&& (3689348814741910323 : Int64)))
def f_J13_bitCount_95d88   (x0 : Int64) : Option (Int32 × Unit) :=
  f_J13_bitCount_95d88_10 (x0 - ((Int64.toUInt64 x0 >>> (Int64.toUInt64 (Int32.toInt64 (1 : Int32)) &&& Int64.toUInt64 63)).toInt64 &&& (6148914691236517205 : Int64)))
abbrev qc_J13_bitCount_95d88 (A : Nat → Prop) (dC : Nat → ClassId) (dI : Nat → Nat → Nat) (cB cI cJ cZ : ClassId)  (out : Int32 × Unit) : Array Value → State → Outcome → State → Prop := va_Qi (fun (r : Int32) (u : Unit) => r = out.1 ∧ u = out.2) (fun (u : Unit) (t : State) => va_P (dC, dI) vwCl (ws_J13_bitCount_95d88 cB cI cJ cZ  ) t.heap ∧ va_K (dC, dI) vwCl (tysG cB cI cJ cZ) t ∧ va_D A (ws_J13_bitCount_95d88 cB cI cJ cZ  )) A
abbrev g_J13_bitCount_95d88_55 (p : Program) (l : Launch) (e : Env) (s : State) (m : MethodId) (args : Array Value) (below : List Frame) (meth : Method) (c : Code) (A : Nat → Prop) (dC : Nat → ClassId) (dI : Nat → Nat → Nat) (cB cI cJ cZ : ClassId)  (out : Int32 × Unit) (k : Int64 → Option (Int32 × Unit)) : Prop := ∀ (x0 : Int64), k x0 = some out → ∀ (H : Heap) (locs : List Loc), va_P (dC, dI) vwCl (ws_J13_bitCount_95d88 cB cI cJ cZ  ) H → va_D A (ws_J13_bitCount_95d88 cB cI cJ cZ  ) → va_S A s.heap H locs → ∀ (ls : Array Slot), lv_has ls 2 [(0, .long x0)] → W p l e (headSpec wsJ13_bitCount_95d88 rm_J13_bitCount_95d88).room s m args below meth c H locs 0 0 (MQ below (qc_J13_bitCount_95d88 A dC dI cB cI cJ cZ   out) args s 0 0 A) (F0 m 55 ls [])
abbrev g_J13_bitCount_95d88_48 (p : Program) (l : Launch) (e : Env) (s : State) (m : MethodId) (args : Array Value) (below : List Frame) (meth : Method) (c : Code) (A : Nat → Prop) (dC : Nat → ClassId) (dI : Nat → Nat → Nat) (cB cI cJ cZ : ClassId)  (out : Int32 × Unit) (k : Int64 → Option (Int32 × Unit)) : Prop := ∀ (x0 : Int64), k x0 = some out → ∀ (H : Heap) (locs : List Loc), va_P (dC, dI) vwCl (ws_J13_bitCount_95d88 cB cI cJ cZ  ) H → va_D A (ws_J13_bitCount_95d88 cB cI cJ cZ  ) → va_S A s.heap H locs → ∀ (ls : Array Slot), lv_has ls 2 [(0, .long x0)] → W p l e (headSpec wsJ13_bitCount_95d88 rm_J13_bitCount_95d88).room s m args below meth c H locs 0 0 (MQ below (qc_J13_bitCount_95d88 A dC dI cB cI cJ cZ   out) args s 0 0 A) (F0 m 48 ls [])
abbrev g_J13_bitCount_95d88_41 (p : Program) (l : Launch) (e : Env) (s : State) (m : MethodId) (args : Array Value) (below : List Frame) (meth : Method) (c : Code) (A : Nat → Prop) (dC : Nat → ClassId) (dI : Nat → Nat → Nat) (cB cI cJ cZ : ClassId)  (out : Int32 × Unit) (k : Int64 → Option (Int32 × Unit)) : Prop := ∀ (x0 : Int64), k x0 = some out → ∀ (H : Heap) (locs : List Loc), va_P (dC, dI) vwCl (ws_J13_bitCount_95d88 cB cI cJ cZ  ) H → va_D A (ws_J13_bitCount_95d88 cB cI cJ cZ  ) → va_S A s.heap H locs → ∀ (ls : Array Slot), lv_has ls 2 [(0, .long x0)] → W p l e (headSpec wsJ13_bitCount_95d88 rm_J13_bitCount_95d88).room s m args below meth c H locs 0 0 (MQ below (qc_J13_bitCount_95d88 A dC dI cB cI cJ cZ   out) args s 0 0 A) (F0 m 41 ls [])
abbrev g_J13_bitCount_95d88_34 (p : Program) (l : Launch) (e : Env) (s : State) (m : MethodId) (args : Array Value) (below : List Frame) (meth : Method) (c : Code) (A : Nat → Prop) (dC : Nat → ClassId) (dI : Nat → Nat → Nat) (cB cI cJ cZ : ClassId)  (out : Int32 × Unit) (k : Int64 → Option (Int32 × Unit)) : Prop := ∀ (x0 : Int64), k x0 = some out → ∀ (H : Heap) (locs : List Loc), va_P (dC, dI) vwCl (ws_J13_bitCount_95d88 cB cI cJ cZ  ) H → va_D A (ws_J13_bitCount_95d88 cB cI cJ cZ  ) → va_S A s.heap H locs → ∀ (ls : Array Slot), lv_has ls 2 [(0, .long x0)] → W p l e (headSpec wsJ13_bitCount_95d88 rm_J13_bitCount_95d88).room s m args below meth c H locs 0 0 (MQ below (qc_J13_bitCount_95d88 A dC dI cB cI cJ cZ   out) args s 0 0 A) (F0 m 34 ls [])
abbrev g_J13_bitCount_95d88_24 (p : Program) (l : Launch) (e : Env) (s : State) (m : MethodId) (args : Array Value) (below : List Frame) (meth : Method) (c : Code) (A : Nat → Prop) (dC : Nat → ClassId) (dI : Nat → Nat → Nat) (cB cI cJ cZ : ClassId)  (out : Int32 × Unit) (k : Int64 → Option (Int32 × Unit)) : Prop := ∀ (x0 : Int64), k x0 = some out → ∀ (H : Heap) (locs : List Loc), va_P (dC, dI) vwCl (ws_J13_bitCount_95d88 cB cI cJ cZ  ) H → va_D A (ws_J13_bitCount_95d88 cB cI cJ cZ  ) → va_S A s.heap H locs → ∀ (ls : Array Slot), lv_has ls 2 [(0, .long x0)] → W p l e (headSpec wsJ13_bitCount_95d88 rm_J13_bitCount_95d88).room s m args below meth c H locs 0 0 (MQ below (qc_J13_bitCount_95d88 A dC dI cB cI cJ cZ   out) args s 0 0 A) (F0 m 24 ls [])
abbrev g_J13_bitCount_95d88_10 (p : Program) (l : Launch) (e : Env) (s : State) (m : MethodId) (args : Array Value) (below : List Frame) (meth : Method) (c : Code) (A : Nat → Prop) (dC : Nat → ClassId) (dI : Nat → Nat → Nat) (cB cI cJ cZ : ClassId)  (out : Int32 × Unit) (k : Int64 → Option (Int32 × Unit)) : Prop := ∀ (x0 : Int64), k x0 = some out → ∀ (H : Heap) (locs : List Loc), va_P (dC, dI) vwCl (ws_J13_bitCount_95d88 cB cI cJ cZ  ) H → va_D A (ws_J13_bitCount_95d88 cB cI cJ cZ  ) → va_S A s.heap H locs → ∀ (ls : Array Slot), lv_has ls 2 [(0, .long x0)] → W p l e (headSpec wsJ13_bitCount_95d88 rm_J13_bitCount_95d88).room s m args below meth c H locs 0 0 (MQ below (qc_J13_bitCount_95d88 A dC dI cB cI cJ cZ   out) args s 0 0 A) (F0 m 10 ls [])
abbrev g_J13_bitCount_95d88_0 (p : Program) (l : Launch) (e : Env) (s : State) (m : MethodId) (args : Array Value) (below : List Frame) (meth : Method) (c : Code) (A : Nat → Prop) (dC : Nat → ClassId) (dI : Nat → Nat → Nat) (cB cI cJ cZ : ClassId)  (out : Int32 × Unit) (k : Int64 → Option (Int32 × Unit)) : Prop := ∀ (x0 : Int64), k x0 = some out → ∀ (H : Heap) (locs : List Loc), va_P (dC, dI) vwCl (ws_J13_bitCount_95d88 cB cI cJ cZ  ) H → va_D A (ws_J13_bitCount_95d88 cB cI cJ cZ  ) → va_S A s.heap H locs → ∀ (ls : Array Slot), lv_has ls 2 [(0, .long x0)] → W p l e (headSpec wsJ13_bitCount_95d88 rm_J13_bitCount_95d88).room s m args below meth c H locs 0 0 (MQ below (qc_J13_bitCount_95d88 A dC dI cB cI cJ cZ   out) args s 0 0 A) (F0 m 0 ls [])
set_option maxHeartbeats 4000000 in
set_option maxRecDepth 100000 in
theorem w_J13_bitCount_95d88_55 {p : Program} {l : Launch} {e : Env} {s : State} {m : MethodId} {args : Array Value} {below : List Frame} {meth : Method} {c : Code} {A : Nat → Prop} {dC : Nat → ClassId} {dI : Nat → Nat → Nat} {cB cI cJ cZ : ClassId}  {out : Int32 × Unit} (C0 : Cx RJ13 cJ13_bitCount_95d88 (some .int) 2 wsJ13_bitCount_95d88 p s m args meth c A) (hK : va_K (dC, dI) vwCl (tysG cB cI cJ cZ) s)  : g_J13_bitCount_95d88_55 p l e s m args below meth c A dC dI cB cI cJ cZ   out (f_J13_bitCount_95d88_55  ) := by
  obtain ⟨hx, hb, hr, hml, hown, hts, hlocks, hA⟩ := id C0
  intro x0 hf H locs hP hD hS ls hl
  replace hf : ((some ((((Int64.toInt32 x0) &&& (127 : Int32)), ()))) : Option (Int32 × Unit)) = some out := hf
  refine lv_lload_n hx hb dJ13_bitCount_95d88_55 rfl (lv_at hl 0 rfl) ?_
  refine lv_l2i (v := (Int64.toInt32 x0)) hx hb dJ13_bitCount_95d88_56 rfl ?_
  refine lv_bipush (v := 127) hx hb dJ13_bitCount_95d88_57 (by decide) ?_
  refine lv_iand hx hb dJ13_bitCount_95d88_59 ?_
  have h9 := Option.some.inj hf
  have h8 := congrArg Prod.fst h9
  have h7 := congrArg Prod.snd h9
  exact W.iret (v := ((Int64.toInt32 x0) &&& (127 : Int32))) hx hb hr (fun t ht hW => ⟨⟨((Int64.toInt32 x0) &&& (127 : Int32)), (), rfl, ⟨h8, h7⟩, by rw [ht]; exact hP, va_K.moved hW.alike hK, hD⟩, hS.F ht⟩) hS.2.2 dJ13_bitCount_95d88_60
set_option maxHeartbeats 4000000 in
set_option maxRecDepth 100000 in
theorem w_J13_bitCount_95d88_48 {p : Program} {l : Launch} {e : Env} {s : State} {m : MethodId} {args : Array Value} {below : List Frame} {meth : Method} {c : Code} {A : Nat → Prop} {dC : Nat → ClassId} {dI : Nat → Nat → Nat} {cB cI cJ cZ : ClassId}  {out : Int32 × Unit} (C0 : Cx RJ13 cJ13_bitCount_95d88 (some .int) 2 wsJ13_bitCount_95d88 p s m args meth c A) (hK : va_K (dC, dI) vwCl (tysG cB cI cJ cZ) s)  : g_J13_bitCount_95d88_48 p l e s m args below meth c A dC dI cB cI cJ cZ   out (f_J13_bitCount_95d88_48  ) := by
  obtain ⟨hx, hb, hr, hml, hown, hts, hlocks, hA⟩ := id C0
  intro x0 hf H locs hP hD hS ls hl
  replace hf : ((f_J13_bitCount_95d88_55 (x0 + (Int64.toUInt64 x0 >>> (Int64.toUInt64 (Int32.toInt64 (32 : Int32)) &&& Int64.toUInt64 63)).toInt64)) : Option (Int32 × Unit)) = some out := hf
  refine lv_lload_n hx hb dJ13_bitCount_95d88_48 rfl (lv_at hl 0 rfl) ?_
  refine lv_lload_n hx hb dJ13_bitCount_95d88_49 rfl (lv_at hl 0 rfl) ?_
  refine lv_bipush (v := 32) hx hb dJ13_bitCount_95d88_50 (by decide) ?_
  refine lv_lushr (v := (Int64.toUInt64 x0 >>> (Int64.toUInt64 (Int32.toInt64 (32 : Int32)) &&& Int64.toUInt64 63)).toInt64) hx hb dJ13_bitCount_95d88_52 rfl ?_
  refine lv_ladd hx hb dJ13_bitCount_95d88_53 ?_
  refine lv_lstore_n (lv' := [(0, .long (x0 + (Int64.toUInt64 x0 >>> (Int64.toUInt64 (Int32.toInt64 (32 : Int32)) &&& Int64.toUInt64 63)).toInt64))]) hx hb dJ13_bitCount_95d88_54 rfl hl (by decide) rfl (fun ls hl => ?_)
  exact w_J13_bitCount_95d88_55 C0 hK (x0 + (Int64.toUInt64 x0 >>> (Int64.toUInt64 (Int32.toInt64 (32 : Int32)) &&& Int64.toUInt64 63)).toInt64) hf _ _ hP hD hS ls (lv_sub hl [0] rfl)
set_option maxHeartbeats 4000000 in
set_option maxRecDepth 100000 in
theorem w_J13_bitCount_95d88_41 {p : Program} {l : Launch} {e : Env} {s : State} {m : MethodId} {args : Array Value} {below : List Frame} {meth : Method} {c : Code} {A : Nat → Prop} {dC : Nat → ClassId} {dI : Nat → Nat → Nat} {cB cI cJ cZ : ClassId}  {out : Int32 × Unit} (C0 : Cx RJ13 cJ13_bitCount_95d88 (some .int) 2 wsJ13_bitCount_95d88 p s m args meth c A) (hK : va_K (dC, dI) vwCl (tysG cB cI cJ cZ) s)  : g_J13_bitCount_95d88_41 p l e s m args below meth c A dC dI cB cI cJ cZ   out (f_J13_bitCount_95d88_41  ) := by
  obtain ⟨hx, hb, hr, hml, hown, hts, hlocks, hA⟩ := id C0
  intro x0 hf H locs hP hD hS ls hl
  replace hf : ((f_J13_bitCount_95d88_48 (x0 + (Int64.toUInt64 x0 >>> (Int64.toUInt64 (Int32.toInt64 (16 : Int32)) &&& Int64.toUInt64 63)).toInt64)) : Option (Int32 × Unit)) = some out := hf
  refine lv_lload_n hx hb dJ13_bitCount_95d88_41 rfl (lv_at hl 0 rfl) ?_
  refine lv_lload_n hx hb dJ13_bitCount_95d88_42 rfl (lv_at hl 0 rfl) ?_
  refine lv_bipush (v := 16) hx hb dJ13_bitCount_95d88_43 (by decide) ?_
  refine lv_lushr (v := (Int64.toUInt64 x0 >>> (Int64.toUInt64 (Int32.toInt64 (16 : Int32)) &&& Int64.toUInt64 63)).toInt64) hx hb dJ13_bitCount_95d88_45 rfl ?_
  refine lv_ladd hx hb dJ13_bitCount_95d88_46 ?_
  refine lv_lstore_n (lv' := [(0, .long (x0 + (Int64.toUInt64 x0 >>> (Int64.toUInt64 (Int32.toInt64 (16 : Int32)) &&& Int64.toUInt64 63)).toInt64))]) hx hb dJ13_bitCount_95d88_47 rfl hl (by decide) rfl (fun ls hl => ?_)
  exact w_J13_bitCount_95d88_48 C0 hK (x0 + (Int64.toUInt64 x0 >>> (Int64.toUInt64 (Int32.toInt64 (16 : Int32)) &&& Int64.toUInt64 63)).toInt64) hf _ _ hP hD hS ls (lv_sub hl [0] rfl)
set_option maxHeartbeats 4000000 in
set_option maxRecDepth 100000 in
theorem w_J13_bitCount_95d88_34 {p : Program} {l : Launch} {e : Env} {s : State} {m : MethodId} {args : Array Value} {below : List Frame} {meth : Method} {c : Code} {A : Nat → Prop} {dC : Nat → ClassId} {dI : Nat → Nat → Nat} {cB cI cJ cZ : ClassId}  {out : Int32 × Unit} (C0 : Cx RJ13 cJ13_bitCount_95d88 (some .int) 2 wsJ13_bitCount_95d88 p s m args meth c A) (hK : va_K (dC, dI) vwCl (tysG cB cI cJ cZ) s)  : g_J13_bitCount_95d88_34 p l e s m args below meth c A dC dI cB cI cJ cZ   out (f_J13_bitCount_95d88_34  ) := by
  obtain ⟨hx, hb, hr, hml, hown, hts, hlocks, hA⟩ := id C0
  intro x0 hf H locs hP hD hS ls hl
  replace hf : ((f_J13_bitCount_95d88_41 (x0 + (Int64.toUInt64 x0 >>> (Int64.toUInt64 (Int32.toInt64 (8 : Int32)) &&& Int64.toUInt64 63)).toInt64)) : Option (Int32 × Unit)) = some out := hf
  refine lv_lload_n hx hb dJ13_bitCount_95d88_34 rfl (lv_at hl 0 rfl) ?_
  refine lv_lload_n hx hb dJ13_bitCount_95d88_35 rfl (lv_at hl 0 rfl) ?_
  refine lv_bipush (v := 8) hx hb dJ13_bitCount_95d88_36 (by decide) ?_
  refine lv_lushr (v := (Int64.toUInt64 x0 >>> (Int64.toUInt64 (Int32.toInt64 (8 : Int32)) &&& Int64.toUInt64 63)).toInt64) hx hb dJ13_bitCount_95d88_38 rfl ?_
  refine lv_ladd hx hb dJ13_bitCount_95d88_39 ?_
  refine lv_lstore_n (lv' := [(0, .long (x0 + (Int64.toUInt64 x0 >>> (Int64.toUInt64 (Int32.toInt64 (8 : Int32)) &&& Int64.toUInt64 63)).toInt64))]) hx hb dJ13_bitCount_95d88_40 rfl hl (by decide) rfl (fun ls hl => ?_)
  exact w_J13_bitCount_95d88_41 C0 hK (x0 + (Int64.toUInt64 x0 >>> (Int64.toUInt64 (Int32.toInt64 (8 : Int32)) &&& Int64.toUInt64 63)).toInt64) hf _ _ hP hD hS ls (lv_sub hl [0] rfl)
set_option maxHeartbeats 4000000 in
set_option maxRecDepth 100000 in
theorem w_J13_bitCount_95d88_24 {p : Program} {l : Launch} {e : Env} {s : State} {m : MethodId} {args : Array Value} {below : List Frame} {meth : Method} {c : Code} {A : Nat → Prop} {dC : Nat → ClassId} {dI : Nat → Nat → Nat} {cB cI cJ cZ : ClassId}  {out : Int32 × Unit} (C0 : Cx RJ13 cJ13_bitCount_95d88 (some .int) 2 wsJ13_bitCount_95d88 p s m args meth c A) (hK : va_K (dC, dI) vwCl (tysG cB cI cJ cZ) s)  : g_J13_bitCount_95d88_24 p l e s m args below meth c A dC dI cB cI cJ cZ   out (f_J13_bitCount_95d88_24  ) := by
  obtain ⟨hx, hb, hr, hml, hown, hts, hlocks, hA⟩ := id C0
  intro x0 hf H locs hP hD hS ls hl
  replace hf : ((f_J13_bitCount_95d88_34 ((x0 + (Int64.toUInt64 x0 >>> (Int64.toUInt64 (Int32.toInt64 (4 : Int32)) &&& Int64.toUInt64 63)).toInt64) &&& (1085102592571150095 : Int64))) : Option (Int32 × Unit)) = some out := hf
  refine lv_lload_n hx hb dJ13_bitCount_95d88_24 rfl (lv_at hl 0 rfl) ?_
  refine lv_lload_n hx hb dJ13_bitCount_95d88_25 rfl (lv_at hl 0 rfl) ?_
  refine lv_iconst (v := 4) hx hb dJ13_bitCount_95d88_26 (by decide) ?_
  refine lv_lushr (v := (Int64.toUInt64 x0 >>> (Int64.toUInt64 (Int32.toInt64 (4 : Int32)) &&& Int64.toUInt64 63)).toInt64) hx hb dJ13_bitCount_95d88_27 rfl ?_
  refine lv_ladd hx hb dJ13_bitCount_95d88_28 ?_
  refine lv_ldc2 hx hb hown (hts (.constantLong RJ13 318 (1085102592571150095)) lk_J13_bitCount_95d88_c318) dJ13_bitCount_95d88_29 ?_
  refine lv_land hx hb dJ13_bitCount_95d88_32 ?_
  refine lv_lstore_n (lv' := [(0, .long ((x0 + (Int64.toUInt64 x0 >>> (Int64.toUInt64 (Int32.toInt64 (4 : Int32)) &&& Int64.toUInt64 63)).toInt64) &&& (1085102592571150095 : Int64)))]) hx hb dJ13_bitCount_95d88_33 rfl hl (by decide) rfl (fun ls hl => ?_)
  exact w_J13_bitCount_95d88_34 C0 hK ((x0 + (Int64.toUInt64 x0 >>> (Int64.toUInt64 (Int32.toInt64 (4 : Int32)) &&& Int64.toUInt64 63)).toInt64) &&& (1085102592571150095 : Int64)) hf _ _ hP hD hS ls (lv_sub hl [0] rfl)
set_option maxHeartbeats 4000000 in
set_option maxRecDepth 100000 in
theorem w_J13_bitCount_95d88_10 {p : Program} {l : Launch} {e : Env} {s : State} {m : MethodId} {args : Array Value} {below : List Frame} {meth : Method} {c : Code} {A : Nat → Prop} {dC : Nat → ClassId} {dI : Nat → Nat → Nat} {cB cI cJ cZ : ClassId}  {out : Int32 × Unit} (C0 : Cx RJ13 cJ13_bitCount_95d88 (some .int) 2 wsJ13_bitCount_95d88 p s m args meth c A) (hK : va_K (dC, dI) vwCl (tysG cB cI cJ cZ) s)  : g_J13_bitCount_95d88_10 p l e s m args below meth c A dC dI cB cI cJ cZ   out (f_J13_bitCount_95d88_10  ) := by
  obtain ⟨hx, hb, hr, hml, hown, hts, hlocks, hA⟩ := id C0
  intro x0 hf H locs hP hD hS ls hl
  replace hf : ((f_J13_bitCount_95d88_24 ((x0 &&& (3689348814741910323 : Int64)) + ((Int64.toUInt64 x0 >>> (Int64.toUInt64 (Int32.toInt64 (2 : Int32)) &&& Int64.toUInt64 63)).toInt64 &&& (3689348814741910323 : Int64)))) : Option (Int32 × Unit)) = some out := hf
  refine lv_lload_n hx hb dJ13_bitCount_95d88_10 rfl (lv_at hl 0 rfl) ?_
  refine lv_ldc2 hx hb hown (hts (.constantLong RJ13 316 (3689348814741910323)) lk_J13_bitCount_95d88_c316) dJ13_bitCount_95d88_11 ?_
  refine lv_land hx hb dJ13_bitCount_95d88_14 ?_
  refine lv_lload_n hx hb dJ13_bitCount_95d88_15 rfl (lv_at hl 0 rfl) ?_
  refine lv_iconst (v := 2) hx hb dJ13_bitCount_95d88_16 (by decide) ?_
  refine lv_lushr (v := (Int64.toUInt64 x0 >>> (Int64.toUInt64 (Int32.toInt64 (2 : Int32)) &&& Int64.toUInt64 63)).toInt64) hx hb dJ13_bitCount_95d88_17 rfl ?_
  refine lv_ldc2 hx hb hown (hts (.constantLong RJ13 316 (3689348814741910323)) lk_J13_bitCount_95d88_c316) dJ13_bitCount_95d88_18 ?_
  refine lv_land hx hb dJ13_bitCount_95d88_21 ?_
  refine lv_ladd hx hb dJ13_bitCount_95d88_22 ?_
  refine lv_lstore_n (lv' := [(0, .long ((x0 &&& (3689348814741910323 : Int64)) + ((Int64.toUInt64 x0 >>> (Int64.toUInt64 (Int32.toInt64 (2 : Int32)) &&& Int64.toUInt64 63)).toInt64 &&& (3689348814741910323 : Int64))))]) hx hb dJ13_bitCount_95d88_23 rfl hl (by decide) rfl (fun ls hl => ?_)
  exact w_J13_bitCount_95d88_24 C0 hK ((x0 &&& (3689348814741910323 : Int64)) + ((Int64.toUInt64 x0 >>> (Int64.toUInt64 (Int32.toInt64 (2 : Int32)) &&& Int64.toUInt64 63)).toInt64 &&& (3689348814741910323 : Int64))) hf _ _ hP hD hS ls (lv_sub hl [0] rfl)
set_option maxHeartbeats 4000000 in
set_option maxRecDepth 100000 in
theorem w_J13_bitCount_95d88_0 {p : Program} {l : Launch} {e : Env} {s : State} {m : MethodId} {args : Array Value} {below : List Frame} {meth : Method} {c : Code} {A : Nat → Prop} {dC : Nat → ClassId} {dI : Nat → Nat → Nat} {cB cI cJ cZ : ClassId}  {out : Int32 × Unit} (C0 : Cx RJ13 cJ13_bitCount_95d88 (some .int) 2 wsJ13_bitCount_95d88 p s m args meth c A) (hK : va_K (dC, dI) vwCl (tysG cB cI cJ cZ) s)  : g_J13_bitCount_95d88_0 p l e s m args below meth c A dC dI cB cI cJ cZ   out (f_J13_bitCount_95d88  ) := by
  obtain ⟨hx, hb, hr, hml, hown, hts, hlocks, hA⟩ := id C0
  intro x0 hf H locs hP hD hS ls hl
  replace hf : ((f_J13_bitCount_95d88_10 (x0 - ((Int64.toUInt64 x0 >>> (Int64.toUInt64 (Int32.toInt64 (1 : Int32)) &&& Int64.toUInt64 63)).toInt64 &&& (6148914691236517205 : Int64)))) : Option (Int32 × Unit)) = some out := hf
  refine lv_lload_n hx hb dJ13_bitCount_95d88_0 rfl (lv_at hl 0 rfl) ?_
  refine lv_lload_n hx hb dJ13_bitCount_95d88_1 rfl (lv_at hl 0 rfl) ?_
  refine lv_iconst (v := 1) hx hb dJ13_bitCount_95d88_2 (by decide) ?_
  refine lv_lushr (v := (Int64.toUInt64 x0 >>> (Int64.toUInt64 (Int32.toInt64 (1 : Int32)) &&& Int64.toUInt64 63)).toInt64) hx hb dJ13_bitCount_95d88_3 rfl ?_
  refine lv_ldc2 hx hb hown (hts (.constantLong RJ13 314 (6148914691236517205)) lk_J13_bitCount_95d88_c314) dJ13_bitCount_95d88_4 ?_
  refine lv_land hx hb dJ13_bitCount_95d88_7 ?_
  refine lv_lsub hx hb dJ13_bitCount_95d88_8 ?_
  refine lv_lstore_n (lv' := [(0, .long (x0 - ((Int64.toUInt64 x0 >>> (Int64.toUInt64 (Int32.toInt64 (1 : Int32)) &&& Int64.toUInt64 63)).toInt64 &&& (6148914691236517205 : Int64))))]) hx hb dJ13_bitCount_95d88_9 rfl hl (by decide) rfl (fun ls hl => ?_)
  exact w_J13_bitCount_95d88_10 C0 hK (x0 - ((Int64.toUInt64 x0 >>> (Int64.toUInt64 (Int32.toInt64 (1 : Int32)) &&& Int64.toUInt64 63)).toInt64 &&& (6148914691236517205 : Int64))) hf _ _ hP hD hS ls (lv_sub hl [0] rfl)
theorem nd_J13_bitCount_95d88 : yJ13_bitCount_95d88.cls ≠ "java/lang/invoke/MethodHandle" ∧ yJ13_bitCount_95d88.cls ≠ "java/lang/invoke/VarHandle" ∧ (parseMethodDescriptor yJ13_bitCount_95d88.desc).map (fun d => d.parameters.length) = some 1 := by decide +kernel
set_option maxHeartbeats 4000000 in
set_option maxRecDepth 100000 in
theorem c_J13_bitCount_95d88 (l : Launch) (dC : Nat → ClassId) (dI : Nat → Nat → Nat) (cB cI cJ cZ : ClassId) (sz : Nat)  (x0 : Int64) (out : Int32 × Unit) (hf : f_J13_bitCount_95d88  x0 = some out) : Met l yJ13_bitCount_95d88 wsJ13_bitCount_95d88 rm_J13_bitCount_95d88 (va_Pc [.long x0] (fun U => U.heap.size = sz ∧ va_P (dC, dI) vwCl (ws_J13_bitCount_95d88 cB cI cJ cZ  ) U.heap ∧ va_K (dC, dI) vwCl (tysG cB cI cJ cZ) U ∧ va_D (fun _ => True) (ws_J13_bitCount_95d88 cB cI cJ cZ  ))) (qc_J13_bitCount_95d88 (va_A (ws_J13_bitCount_95d88 cB cI cJ cZ  ) sz) dC dI cB cI cJ cZ   out) 0 0 (va_A (ws_J13_bitCount_95d88 cB cI cJ cZ  ) sz) := by
  refine Met.ofW (cc := cJ13_bitCount_95d88) (maxL := 2) (ret := (some .int)) (by decide) rfl ?_
  intro p e s m args below meth c s₁ B hml hv
  obtain ⟨rfl, hsz, hP, hK, hD0⟩ := hv
  subst hsz
  have hD := hD0.self (sz := s.heap.size)
  generalize hAe : va_A (ws_J13_bitCount_95d88 cB cI cJ cZ  ) s.heap.size = A at hD ⊢
  have hA : ∀ q : Nat, s.heap.size ≤ q → A q := fun q h => by rw [← hAe]; exact Or.inr h
  have hl := lv_entry ([.long x0]) (n := 2) (Nat.le_of_ble_eq_true rfl)
  rw [lg_entry_eq]
  generalize (lg_sl ([.long x0]) ++ List.replicate (2 - (lg_sl ([.long x0])).length) Slot.unset).toArray = ls at hl ⊢
  have hl : lv_has ls 2 [(0, .long x0)] := hl
  exact w_J13_bitCount_95d88_0 ⟨B.exec, B.bytes, B.returns, hml, findClass_of_methodNamed B.named, atoms_spec (ws := wsJ13_bitCount_95d88) B.pre, B.notSynchronized, hA⟩ hK x0 hf _ _ hP hD va_S.rf ls (lv_sub hl [0] rfl)
-- J6.numberOfTrailingZeros(I)I: 54 instructions
abbrev ws_J6_numberOfTrailingZeros_0f7a4 (cB cI cJ cZ : ClassId)  : va_W := []
abbrev rm_J6_numberOfTrailingZeros_0f7a4 : Room := { frames := 0, cells := 0, slots := 0, locals := 0 }
theorem lk_J6_numberOfTrailingZeros_0f7a4_c264 : Cond.constant RJ6 264 (65536) ∈ wsJ6_numberOfTrailingZeros_0f7a4 := by decide +kernel
def f_J6_numberOfTrailingZeros_0f7a4_74   (x0 : Int32) (x1 : Int32) : Option (Int32 × Unit) :=
  some (((x1 + (Int32.toUInt32 x0 >>> (Int32.toUInt32 (1 : Int32) &&& Int32.toUInt32 31)).toInt32), ()))
def f_J6_numberOfTrailingZeros_0f7a4_62   (x0 : Int32) (x1 : Int32) : Option (Int32 × Unit) :=
  if x0 ≤ (4 : Int32) then
  (f_J6_numberOfTrailingZeros_0f7a4_74 x0 x1)
  else
  (f_J6_numberOfTrailingZeros_0f7a4_74 ((Int32.toUInt32 x0 >>> (Int32.toUInt32 (2 : Int32) &&& Int32.toUInt32 31)).toInt32) (x1 + 2))
def f_J6_numberOfTrailingZeros_0f7a4_49   (x0 : Int32) (x1 : Int32) : Option (Int32 × Unit) :=
  if x0 ≤ (16 : Int32) then
  (f_J6_numberOfTrailingZeros_0f7a4_62 x0 x1)
  else
  (f_J6_numberOfTrailingZeros_0f7a4_62 ((Int32.toUInt32 x0 >>> (Int32.toUInt32 (4 : Int32) &&& Int32.toUInt32 31)).toInt32) (x1 + 4))
def f_J6_numberOfTrailingZeros_0f7a4_34   (x0 : Int32) (x1 : Int32) : Option (Int32 × Unit) :=
  if x0 ≤ (256 : Int32) then
  (f_J6_numberOfTrailingZeros_0f7a4_49 x0 x1)
  else
  (f_J6_numberOfTrailingZeros_0f7a4_49 ((Int32.toUInt32 x0 >>> (Int32.toUInt32 (8 : Int32) &&& Int32.toUInt32 31)).toInt32) (x1 + 8))
def f_J6_numberOfTrailingZeros_0f7a4_19   (x0 : Int32) (x1 : Int32) : Option (Int32 × Unit) :=
  if x0 ≤ (65536 : Int32) then
  (f_J6_numberOfTrailingZeros_0f7a4_34 x0 x1)
  else
  (f_J6_numberOfTrailingZeros_0f7a4_34 ((Int32.toUInt32 x0 >>> (Int32.toUInt32 (16 : Int32) &&& Int32.toUInt32 31)).toInt32) (x1 + 16))
def f_J6_numberOfTrailingZeros_0f7a4_8   (x0 : Int32) : Option (Int32 × Unit) :=
  if 0 < x0 then
  (f_J6_numberOfTrailingZeros_0f7a4_19 x0 (1 : Int32))
  else
  (some (((x0 &&& (32 : Int32)), ())))
def f_J6_numberOfTrailingZeros_0f7a4   (x0 : Int32) : Option (Int32 × Unit) :=
  f_J6_numberOfTrailingZeros_0f7a4_8 ((x0 ^^^ (-1 : Int32)) &&& (x0 - (1 : Int32)))
abbrev qc_J6_numberOfTrailingZeros_0f7a4 (A : Nat → Prop) (dC : Nat → ClassId) (dI : Nat → Nat → Nat) (cB cI cJ cZ : ClassId)  (out : Int32 × Unit) : Array Value → State → Outcome → State → Prop := va_Qi (fun (r : Int32) (u : Unit) => r = out.1 ∧ u = out.2) (fun (u : Unit) (t : State) => va_P (dC, dI) vwCl (ws_J6_numberOfTrailingZeros_0f7a4 cB cI cJ cZ  ) t.heap ∧ va_K (dC, dI) vwCl (tysG cB cI cJ cZ) t ∧ va_D A (ws_J6_numberOfTrailingZeros_0f7a4 cB cI cJ cZ  )) A
abbrev g_J6_numberOfTrailingZeros_0f7a4_74 (p : Program) (l : Launch) (e : Env) (s : State) (m : MethodId) (args : Array Value) (below : List Frame) (meth : Method) (c : Code) (A : Nat → Prop) (dC : Nat → ClassId) (dI : Nat → Nat → Nat) (cB cI cJ cZ : ClassId)  (out : Int32 × Unit) (k : Int32 → Int32 → Option (Int32 × Unit)) : Prop := ∀ (x0 : Int32) (x1 : Int32), k x0 x1 = some out → ∀ (H : Heap) (locs : List Loc), va_P (dC, dI) vwCl (ws_J6_numberOfTrailingZeros_0f7a4 cB cI cJ cZ  ) H → va_D A (ws_J6_numberOfTrailingZeros_0f7a4 cB cI cJ cZ  ) → va_S A s.heap H locs → ∀ (ls : Array Slot), lv_has ls 2 [(0, .int x0), (1, .int x1)] → W p l e (headSpec wsJ6_numberOfTrailingZeros_0f7a4 rm_J6_numberOfTrailingZeros_0f7a4).room s m args below meth c H locs 0 0 (MQ below (qc_J6_numberOfTrailingZeros_0f7a4 A dC dI cB cI cJ cZ   out) args s 0 0 A) (F0 m 74 ls [])
abbrev g_J6_numberOfTrailingZeros_0f7a4_62 (p : Program) (l : Launch) (e : Env) (s : State) (m : MethodId) (args : Array Value) (below : List Frame) (meth : Method) (c : Code) (A : Nat → Prop) (dC : Nat → ClassId) (dI : Nat → Nat → Nat) (cB cI cJ cZ : ClassId)  (out : Int32 × Unit) (k : Int32 → Int32 → Option (Int32 × Unit)) : Prop := ∀ (x0 : Int32) (x1 : Int32), k x0 x1 = some out → ∀ (H : Heap) (locs : List Loc), va_P (dC, dI) vwCl (ws_J6_numberOfTrailingZeros_0f7a4 cB cI cJ cZ  ) H → va_D A (ws_J6_numberOfTrailingZeros_0f7a4 cB cI cJ cZ  ) → va_S A s.heap H locs → ∀ (ls : Array Slot), lv_has ls 2 [(0, .int x0), (1, .int x1)] → W p l e (headSpec wsJ6_numberOfTrailingZeros_0f7a4 rm_J6_numberOfTrailingZeros_0f7a4).room s m args below meth c H locs 0 0 (MQ below (qc_J6_numberOfTrailingZeros_0f7a4 A dC dI cB cI cJ cZ   out) args s 0 0 A) (F0 m 62 ls [])
abbrev g_J6_numberOfTrailingZeros_0f7a4_49 (p : Program) (l : Launch) (e : Env) (s : State) (m : MethodId) (args : Array Value) (below : List Frame) (meth : Method) (c : Code) (A : Nat → Prop) (dC : Nat → ClassId) (dI : Nat → Nat → Nat) (cB cI cJ cZ : ClassId)  (out : Int32 × Unit) (k : Int32 → Int32 → Option (Int32 × Unit)) : Prop := ∀ (x0 : Int32) (x1 : Int32), k x0 x1 = some out → ∀ (H : Heap) (locs : List Loc), va_P (dC, dI) vwCl (ws_J6_numberOfTrailingZeros_0f7a4 cB cI cJ cZ  ) H → va_D A (ws_J6_numberOfTrailingZeros_0f7a4 cB cI cJ cZ  ) → va_S A s.heap H locs → ∀ (ls : Array Slot), lv_has ls 2 [(0, .int x0), (1, .int x1)] → W p l e (headSpec wsJ6_numberOfTrailingZeros_0f7a4 rm_J6_numberOfTrailingZeros_0f7a4).room s m args below meth c H locs 0 0 (MQ below (qc_J6_numberOfTrailingZeros_0f7a4 A dC dI cB cI cJ cZ   out) args s 0 0 A) (F0 m 49 ls [])
abbrev g_J6_numberOfTrailingZeros_0f7a4_34 (p : Program) (l : Launch) (e : Env) (s : State) (m : MethodId) (args : Array Value) (below : List Frame) (meth : Method) (c : Code) (A : Nat → Prop) (dC : Nat → ClassId) (dI : Nat → Nat → Nat) (cB cI cJ cZ : ClassId)  (out : Int32 × Unit) (k : Int32 → Int32 → Option (Int32 × Unit)) : Prop := ∀ (x0 : Int32) (x1 : Int32), k x0 x1 = some out → ∀ (H : Heap) (locs : List Loc), va_P (dC, dI) vwCl (ws_J6_numberOfTrailingZeros_0f7a4 cB cI cJ cZ  ) H → va_D A (ws_J6_numberOfTrailingZeros_0f7a4 cB cI cJ cZ  ) → va_S A s.heap H locs → ∀ (ls : Array Slot), lv_has ls 2 [(0, .int x0), (1, .int x1)] → W p l e (headSpec wsJ6_numberOfTrailingZeros_0f7a4 rm_J6_numberOfTrailingZeros_0f7a4).room s m args below meth c H locs 0 0 (MQ below (qc_J6_numberOfTrailingZeros_0f7a4 A dC dI cB cI cJ cZ   out) args s 0 0 A) (F0 m 34 ls [])
abbrev g_J6_numberOfTrailingZeros_0f7a4_19 (p : Program) (l : Launch) (e : Env) (s : State) (m : MethodId) (args : Array Value) (below : List Frame) (meth : Method) (c : Code) (A : Nat → Prop) (dC : Nat → ClassId) (dI : Nat → Nat → Nat) (cB cI cJ cZ : ClassId)  (out : Int32 × Unit) (k : Int32 → Int32 → Option (Int32 × Unit)) : Prop := ∀ (x0 : Int32) (x1 : Int32), k x0 x1 = some out → ∀ (H : Heap) (locs : List Loc), va_P (dC, dI) vwCl (ws_J6_numberOfTrailingZeros_0f7a4 cB cI cJ cZ  ) H → va_D A (ws_J6_numberOfTrailingZeros_0f7a4 cB cI cJ cZ  ) → va_S A s.heap H locs → ∀ (ls : Array Slot), lv_has ls 2 [(0, .int x0), (1, .int x1)] → W p l e (headSpec wsJ6_numberOfTrailingZeros_0f7a4 rm_J6_numberOfTrailingZeros_0f7a4).room s m args below meth c H locs 0 0 (MQ below (qc_J6_numberOfTrailingZeros_0f7a4 A dC dI cB cI cJ cZ   out) args s 0 0 A) (F0 m 19 ls [])
abbrev g_J6_numberOfTrailingZeros_0f7a4_8 (p : Program) (l : Launch) (e : Env) (s : State) (m : MethodId) (args : Array Value) (below : List Frame) (meth : Method) (c : Code) (A : Nat → Prop) (dC : Nat → ClassId) (dI : Nat → Nat → Nat) (cB cI cJ cZ : ClassId)  (out : Int32 × Unit) (k : Int32 → Option (Int32 × Unit)) : Prop := ∀ (x0 : Int32), k x0 = some out → ∀ (H : Heap) (locs : List Loc), va_P (dC, dI) vwCl (ws_J6_numberOfTrailingZeros_0f7a4 cB cI cJ cZ  ) H → va_D A (ws_J6_numberOfTrailingZeros_0f7a4 cB cI cJ cZ  ) → va_S A s.heap H locs → ∀ (ls : Array Slot), lv_has ls 2 [(0, .int x0)] → W p l e (headSpec wsJ6_numberOfTrailingZeros_0f7a4 rm_J6_numberOfTrailingZeros_0f7a4).room s m args below meth c H locs 0 0 (MQ below (qc_J6_numberOfTrailingZeros_0f7a4 A dC dI cB cI cJ cZ   out) args s 0 0 A) (F0 m 8 ls [])
abbrev g_J6_numberOfTrailingZeros_0f7a4_0 (p : Program) (l : Launch) (e : Env) (s : State) (m : MethodId) (args : Array Value) (below : List Frame) (meth : Method) (c : Code) (A : Nat → Prop) (dC : Nat → ClassId) (dI : Nat → Nat → Nat) (cB cI cJ cZ : ClassId)  (out : Int32 × Unit) (k : Int32 → Option (Int32 × Unit)) : Prop := ∀ (x0 : Int32), k x0 = some out → ∀ (H : Heap) (locs : List Loc), va_P (dC, dI) vwCl (ws_J6_numberOfTrailingZeros_0f7a4 cB cI cJ cZ  ) H → va_D A (ws_J6_numberOfTrailingZeros_0f7a4 cB cI cJ cZ  ) → va_S A s.heap H locs → ∀ (ls : Array Slot), lv_has ls 2 [(0, .int x0)] → W p l e (headSpec wsJ6_numberOfTrailingZeros_0f7a4 rm_J6_numberOfTrailingZeros_0f7a4).room s m args below meth c H locs 0 0 (MQ below (qc_J6_numberOfTrailingZeros_0f7a4 A dC dI cB cI cJ cZ   out) args s 0 0 A) (F0 m 0 ls [])
set_option maxHeartbeats 4000000 in
set_option maxRecDepth 100000 in
theorem w_J6_numberOfTrailingZeros_0f7a4_74 {p : Program} {l : Launch} {e : Env} {s : State} {m : MethodId} {args : Array Value} {below : List Frame} {meth : Method} {c : Code} {A : Nat → Prop} {dC : Nat → ClassId} {dI : Nat → Nat → Nat} {cB cI cJ cZ : ClassId}  {out : Int32 × Unit} (C0 : Cx RJ6 cJ6_numberOfTrailingZeros_0f7a4 (some .int) 2 wsJ6_numberOfTrailingZeros_0f7a4 p s m args meth c A) (hK : va_K (dC, dI) vwCl (tysG cB cI cJ cZ) s)  : g_J6_numberOfTrailingZeros_0f7a4_74 p l e s m args below meth c A dC dI cB cI cJ cZ   out (f_J6_numberOfTrailingZeros_0f7a4_74  ) := by
  obtain ⟨hx, hb, hr, hml, hown, hts, hlocks, hA⟩ := id C0
  intro x0 x1 hf H locs hP hD hS ls hl
  replace hf : ((some (((x1 + (Int32.toUInt32 x0 >>> (Int32.toUInt32 (1 : Int32) &&& Int32.toUInt32 31)).toInt32), ()))) : Option (Int32 × Unit)) = some out := hf
  refine lv_iload_n hx hb dJ6_numberOfTrailingZeros_0f7a4_74 rfl (lv_at hl 1 rfl) ?_
  refine lv_iload_n hx hb dJ6_numberOfTrailingZeros_0f7a4_75 rfl (lv_at hl 0 rfl) ?_
  refine lv_iconst (v := 1) hx hb dJ6_numberOfTrailingZeros_0f7a4_76 (by decide) ?_
  refine lv_iushr (v := (Int32.toUInt32 x0 >>> (Int32.toUInt32 (1 : Int32) &&& Int32.toUInt32 31)).toInt32) hx hb dJ6_numberOfTrailingZeros_0f7a4_77 rfl ?_
  refine lv_iadd hx hb dJ6_numberOfTrailingZeros_0f7a4_78 ?_
  have h9 := Option.some.inj hf
  have h8 := congrArg Prod.fst h9
  have h7 := congrArg Prod.snd h9
  exact W.iret (v := (x1 + (Int32.toUInt32 x0 >>> (Int32.toUInt32 (1 : Int32) &&& Int32.toUInt32 31)).toInt32)) hx hb hr (fun t ht hW => ⟨⟨(x1 + (Int32.toUInt32 x0 >>> (Int32.toUInt32 (1 : Int32) &&& Int32.toUInt32 31)).toInt32), (), rfl, ⟨h8, h7⟩, by rw [ht]; exact hP, va_K.moved hW.alike hK, hD⟩, hS.F ht⟩) hS.2.2 dJ6_numberOfTrailingZeros_0f7a4_79
set_option maxHeartbeats 4000000 in
set_option maxRecDepth 100000 in
theorem w_J6_numberOfTrailingZeros_0f7a4_62 {p : Program} {l : Launch} {e : Env} {s : State} {m : MethodId} {args : Array Value} {below : List Frame} {meth : Method} {c : Code} {A : Nat → Prop} {dC : Nat → ClassId} {dI : Nat → Nat → Nat} {cB cI cJ cZ : ClassId}  {out : Int32 × Unit} (C0 : Cx RJ6 cJ6_numberOfTrailingZeros_0f7a4 (some .int) 2 wsJ6_numberOfTrailingZeros_0f7a4 p s m args meth c A) (hK : va_K (dC, dI) vwCl (tysG cB cI cJ cZ) s)  : g_J6_numberOfTrailingZeros_0f7a4_62 p l e s m args below meth c A dC dI cB cI cJ cZ   out (f_J6_numberOfTrailingZeros_0f7a4_62  ) := by
  obtain ⟨hx, hb, hr, hml, hown, hts, hlocks, hA⟩ := id C0
  intro x0 x1 hf H locs hP hD hS ls hl
  replace hf : ((if x0 ≤ (4 : Int32) then
  (f_J6_numberOfTrailingZeros_0f7a4_74 x0 x1)
  else
  (f_J6_numberOfTrailingZeros_0f7a4_74 ((Int32.toUInt32 x0 >>> (Int32.toUInt32 (2 : Int32) &&& Int32.toUInt32 31)).toInt32) (x1 + 2))) : Option (Int32 × Unit)) = some out := hf
  refine lv_iload_n hx hb dJ6_numberOfTrailingZeros_0f7a4_62 rfl (lv_at hl 0 rfl) ?_
  refine lv_iconst (v := 4) hx hb dJ6_numberOfTrailingZeros_0f7a4_63 (by decide) ?_
  refine lv_icmp_le (tgt := 74) hx hb dJ6_numberOfTrailingZeros_0f7a4_64 (by decide) (fun c_1 => ?_) (fun c_1 => ?_)
  · replace hf := (if_pos c_1).symm.trans hf
    exact w_J6_numberOfTrailingZeros_0f7a4_74 C0 hK x0 x1 hf _ _ hP hD hS ls (lv_sub hl [0, 1] rfl)
  · replace hf := (if_neg c_1).symm.trans hf
    refine lv_iinc (v := (x1 + 2)) (lv' := [(1, .int (x1 + 2)), (0, .int x0)]) hx hb dJ6_numberOfTrailingZeros_0f7a4_67 hl (k := 1) rfl rfl (by decide) rfl (fun ls hl => ?_)
    refine lv_iload_n hx hb dJ6_numberOfTrailingZeros_0f7a4_70 rfl (lv_at hl 1 rfl) ?_
    refine lv_iconst (v := 2) hx hb dJ6_numberOfTrailingZeros_0f7a4_71 (by decide) ?_
    refine lv_iushr (v := (Int32.toUInt32 x0 >>> (Int32.toUInt32 (2 : Int32) &&& Int32.toUInt32 31)).toInt32) hx hb dJ6_numberOfTrailingZeros_0f7a4_72 rfl ?_
    refine lv_istore_n (lv' := [(0, .int ((Int32.toUInt32 x0 >>> (Int32.toUInt32 (2 : Int32) &&& Int32.toUInt32 31)).toInt32)), (1, .int (x1 + 2))]) hx hb dJ6_numberOfTrailingZeros_0f7a4_73 rfl hl (by decide) rfl (fun ls hl => ?_)
    exact w_J6_numberOfTrailingZeros_0f7a4_74 C0 hK ((Int32.toUInt32 x0 >>> (Int32.toUInt32 (2 : Int32) &&& Int32.toUInt32 31)).toInt32) (x1 + 2) hf _ _ hP hD hS ls (lv_sub hl [0, 1] rfl)
set_option maxHeartbeats 4000000 in
set_option maxRecDepth 100000 in
theorem w_J6_numberOfTrailingZeros_0f7a4_49 {p : Program} {l : Launch} {e : Env} {s : State} {m : MethodId} {args : Array Value} {below : List Frame} {meth : Method} {c : Code} {A : Nat → Prop} {dC : Nat → ClassId} {dI : Nat → Nat → Nat} {cB cI cJ cZ : ClassId}  {out : Int32 × Unit} (C0 : Cx RJ6 cJ6_numberOfTrailingZeros_0f7a4 (some .int) 2 wsJ6_numberOfTrailingZeros_0f7a4 p s m args meth c A) (hK : va_K (dC, dI) vwCl (tysG cB cI cJ cZ) s)  : g_J6_numberOfTrailingZeros_0f7a4_49 p l e s m args below meth c A dC dI cB cI cJ cZ   out (f_J6_numberOfTrailingZeros_0f7a4_49  ) := by
  obtain ⟨hx, hb, hr, hml, hown, hts, hlocks, hA⟩ := id C0
  intro x0 x1 hf H locs hP hD hS ls hl
  replace hf : ((if x0 ≤ (16 : Int32) then
  (f_J6_numberOfTrailingZeros_0f7a4_62 x0 x1)
  else
  (f_J6_numberOfTrailingZeros_0f7a4_62 ((Int32.toUInt32 x0 >>> (Int32.toUInt32 (4 : Int32) &&& Int32.toUInt32 31)).toInt32) (x1 + 4))) : Option (Int32 × Unit)) = some out := hf
  refine lv_iload_n hx hb dJ6_numberOfTrailingZeros_0f7a4_49 rfl (lv_at hl 0 rfl) ?_
  refine lv_bipush (v := 16) hx hb dJ6_numberOfTrailingZeros_0f7a4_50 (by decide) ?_
  refine lv_icmp_le (tgt := 62) hx hb dJ6_numberOfTrailingZeros_0f7a4_52 (by decide) (fun c_2 => ?_) (fun c_2 => ?_)
  · replace hf := (if_pos c_2).symm.trans hf
    exact w_J6_numberOfTrailingZeros_0f7a4_62 C0 hK x0 x1 hf _ _ hP hD hS ls (lv_sub hl [0, 1] rfl)
  · replace hf := (if_neg c_2).symm.trans hf
    refine lv_iinc (v := (x1 + 4)) (lv' := [(1, .int (x1 + 4)), (0, .int x0)]) hx hb dJ6_numberOfTrailingZeros_0f7a4_55 hl (k := 1) rfl rfl (by decide) rfl (fun ls hl => ?_)
    refine lv_iload_n hx hb dJ6_numberOfTrailingZeros_0f7a4_58 rfl (lv_at hl 1 rfl) ?_
    refine lv_iconst (v := 4) hx hb dJ6_numberOfTrailingZeros_0f7a4_59 (by decide) ?_
    refine lv_iushr (v := (Int32.toUInt32 x0 >>> (Int32.toUInt32 (4 : Int32) &&& Int32.toUInt32 31)).toInt32) hx hb dJ6_numberOfTrailingZeros_0f7a4_60 rfl ?_
    refine lv_istore_n (lv' := [(0, .int ((Int32.toUInt32 x0 >>> (Int32.toUInt32 (4 : Int32) &&& Int32.toUInt32 31)).toInt32)), (1, .int (x1 + 4))]) hx hb dJ6_numberOfTrailingZeros_0f7a4_61 rfl hl (by decide) rfl (fun ls hl => ?_)
    exact w_J6_numberOfTrailingZeros_0f7a4_62 C0 hK ((Int32.toUInt32 x0 >>> (Int32.toUInt32 (4 : Int32) &&& Int32.toUInt32 31)).toInt32) (x1 + 4) hf _ _ hP hD hS ls (lv_sub hl [0, 1] rfl)
set_option maxHeartbeats 4000000 in
set_option maxRecDepth 100000 in
theorem w_J6_numberOfTrailingZeros_0f7a4_34 {p : Program} {l : Launch} {e : Env} {s : State} {m : MethodId} {args : Array Value} {below : List Frame} {meth : Method} {c : Code} {A : Nat → Prop} {dC : Nat → ClassId} {dI : Nat → Nat → Nat} {cB cI cJ cZ : ClassId}  {out : Int32 × Unit} (C0 : Cx RJ6 cJ6_numberOfTrailingZeros_0f7a4 (some .int) 2 wsJ6_numberOfTrailingZeros_0f7a4 p s m args meth c A) (hK : va_K (dC, dI) vwCl (tysG cB cI cJ cZ) s)  : g_J6_numberOfTrailingZeros_0f7a4_34 p l e s m args below meth c A dC dI cB cI cJ cZ   out (f_J6_numberOfTrailingZeros_0f7a4_34  ) := by
  obtain ⟨hx, hb, hr, hml, hown, hts, hlocks, hA⟩ := id C0
  intro x0 x1 hf H locs hP hD hS ls hl
  replace hf : ((if x0 ≤ (256 : Int32) then
  (f_J6_numberOfTrailingZeros_0f7a4_49 x0 x1)
  else
  (f_J6_numberOfTrailingZeros_0f7a4_49 ((Int32.toUInt32 x0 >>> (Int32.toUInt32 (8 : Int32) &&& Int32.toUInt32 31)).toInt32) (x1 + 8))) : Option (Int32 × Unit)) = some out := hf
  refine lv_iload_n hx hb dJ6_numberOfTrailingZeros_0f7a4_34 rfl (lv_at hl 0 rfl) ?_
  refine lv_sipush (v := 256) hx hb dJ6_numberOfTrailingZeros_0f7a4_35 (by decide) ?_
  refine lv_icmp_le (tgt := 49) hx hb dJ6_numberOfTrailingZeros_0f7a4_38 (by decide) (fun c_3 => ?_) (fun c_3 => ?_)
  · replace hf := (if_pos c_3).symm.trans hf
    exact w_J6_numberOfTrailingZeros_0f7a4_49 C0 hK x0 x1 hf _ _ hP hD hS ls (lv_sub hl [0, 1] rfl)
  · replace hf := (if_neg c_3).symm.trans hf
    refine lv_iinc (v := (x1 + 8)) (lv' := [(1, .int (x1 + 8)), (0, .int x0)]) hx hb dJ6_numberOfTrailingZeros_0f7a4_41 hl (k := 1) rfl rfl (by decide) rfl (fun ls hl => ?_)
    refine lv_iload_n hx hb dJ6_numberOfTrailingZeros_0f7a4_44 rfl (lv_at hl 1 rfl) ?_
    refine lv_bipush (v := 8) hx hb dJ6_numberOfTrailingZeros_0f7a4_45 (by decide) ?_
    refine lv_iushr (v := (Int32.toUInt32 x0 >>> (Int32.toUInt32 (8 : Int32) &&& Int32.toUInt32 31)).toInt32) hx hb dJ6_numberOfTrailingZeros_0f7a4_47 rfl ?_
    refine lv_istore_n (lv' := [(0, .int ((Int32.toUInt32 x0 >>> (Int32.toUInt32 (8 : Int32) &&& Int32.toUInt32 31)).toInt32)), (1, .int (x1 + 8))]) hx hb dJ6_numberOfTrailingZeros_0f7a4_48 rfl hl (by decide) rfl (fun ls hl => ?_)
    exact w_J6_numberOfTrailingZeros_0f7a4_49 C0 hK ((Int32.toUInt32 x0 >>> (Int32.toUInt32 (8 : Int32) &&& Int32.toUInt32 31)).toInt32) (x1 + 8) hf _ _ hP hD hS ls (lv_sub hl [0, 1] rfl)
set_option maxHeartbeats 4000000 in
set_option maxRecDepth 100000 in
theorem w_J6_numberOfTrailingZeros_0f7a4_19 {p : Program} {l : Launch} {e : Env} {s : State} {m : MethodId} {args : Array Value} {below : List Frame} {meth : Method} {c : Code} {A : Nat → Prop} {dC : Nat → ClassId} {dI : Nat → Nat → Nat} {cB cI cJ cZ : ClassId}  {out : Int32 × Unit} (C0 : Cx RJ6 cJ6_numberOfTrailingZeros_0f7a4 (some .int) 2 wsJ6_numberOfTrailingZeros_0f7a4 p s m args meth c A) (hK : va_K (dC, dI) vwCl (tysG cB cI cJ cZ) s)  : g_J6_numberOfTrailingZeros_0f7a4_19 p l e s m args below meth c A dC dI cB cI cJ cZ   out (f_J6_numberOfTrailingZeros_0f7a4_19  ) := by
  obtain ⟨hx, hb, hr, hml, hown, hts, hlocks, hA⟩ := id C0
  intro x0 x1 hf H locs hP hD hS ls hl
  replace hf : ((if x0 ≤ (65536 : Int32) then
  (f_J6_numberOfTrailingZeros_0f7a4_34 x0 x1)
  else
  (f_J6_numberOfTrailingZeros_0f7a4_34 ((Int32.toUInt32 x0 >>> (Int32.toUInt32 (16 : Int32) &&& Int32.toUInt32 31)).toInt32) (x1 + 16))) : Option (Int32 × Unit)) = some out := hf
  refine lv_iload_n hx hb dJ6_numberOfTrailingZeros_0f7a4_19 rfl (lv_at hl 0 rfl) ?_
  refine lv_ldcw hx hb hown (hts (.constant RJ6 264 (65536)) lk_J6_numberOfTrailingZeros_0f7a4_c264) dJ6_numberOfTrailingZeros_0f7a4_20 ?_
  refine lv_icmp_le (tgt := 34) hx hb dJ6_numberOfTrailingZeros_0f7a4_23 (by decide) (fun c_4 => ?_) (fun c_4 => ?_)
  · replace hf := (if_pos c_4).symm.trans hf
    exact w_J6_numberOfTrailingZeros_0f7a4_34 C0 hK x0 x1 hf _ _ hP hD hS ls (lv_sub hl [0, 1] rfl)
  · replace hf := (if_neg c_4).symm.trans hf
    refine lv_iinc (v := (x1 + 16)) (lv' := [(1, .int (x1 + 16)), (0, .int x0)]) hx hb dJ6_numberOfTrailingZeros_0f7a4_26 hl (k := 1) rfl rfl (by decide) rfl (fun ls hl => ?_)
    refine lv_iload_n hx hb dJ6_numberOfTrailingZeros_0f7a4_29 rfl (lv_at hl 1 rfl) ?_
    refine lv_bipush (v := 16) hx hb dJ6_numberOfTrailingZeros_0f7a4_30 (by decide) ?_
    refine lv_iushr (v := (Int32.toUInt32 x0 >>> (Int32.toUInt32 (16 : Int32) &&& Int32.toUInt32 31)).toInt32) hx hb dJ6_numberOfTrailingZeros_0f7a4_32 rfl ?_
    refine lv_istore_n (lv' := [(0, .int ((Int32.toUInt32 x0 >>> (Int32.toUInt32 (16 : Int32) &&& Int32.toUInt32 31)).toInt32)), (1, .int (x1 + 16))]) hx hb dJ6_numberOfTrailingZeros_0f7a4_33 rfl hl (by decide) rfl (fun ls hl => ?_)
    exact w_J6_numberOfTrailingZeros_0f7a4_34 C0 hK ((Int32.toUInt32 x0 >>> (Int32.toUInt32 (16 : Int32) &&& Int32.toUInt32 31)).toInt32) (x1 + 16) hf _ _ hP hD hS ls (lv_sub hl [0, 1] rfl)
set_option maxHeartbeats 4000000 in
set_option maxRecDepth 100000 in
theorem w_J6_numberOfTrailingZeros_0f7a4_8 {p : Program} {l : Launch} {e : Env} {s : State} {m : MethodId} {args : Array Value} {below : List Frame} {meth : Method} {c : Code} {A : Nat → Prop} {dC : Nat → ClassId} {dI : Nat → Nat → Nat} {cB cI cJ cZ : ClassId}  {out : Int32 × Unit} (C0 : Cx RJ6 cJ6_numberOfTrailingZeros_0f7a4 (some .int) 2 wsJ6_numberOfTrailingZeros_0f7a4 p s m args meth c A) (hK : va_K (dC, dI) vwCl (tysG cB cI cJ cZ) s)  : g_J6_numberOfTrailingZeros_0f7a4_8 p l e s m args below meth c A dC dI cB cI cJ cZ   out (f_J6_numberOfTrailingZeros_0f7a4_8  ) := by
  obtain ⟨hx, hb, hr, hml, hown, hts, hlocks, hA⟩ := id C0
  intro x0 hf H locs hP hD hS ls hl
  replace hf : ((if 0 < x0 then
  (f_J6_numberOfTrailingZeros_0f7a4_19 x0 (1 : Int32))
  else
  (some (((x0 &&& (32 : Int32)), ())))) : Option (Int32 × Unit)) = some out := hf
  refine lv_iload_n hx hb dJ6_numberOfTrailingZeros_0f7a4_8 rfl (lv_at hl 0 rfl) ?_
  refine lv_if_gt (tgt := 17) hx hb dJ6_numberOfTrailingZeros_0f7a4_9 (by decide) (fun c_5 => ?_) (fun c_5 => ?_)
  · replace hf := (if_pos c_5).symm.trans hf
    refine lv_iconst (v := 1) hx hb dJ6_numberOfTrailingZeros_0f7a4_17 (by decide) ?_
    refine lv_istore_n (lv' := [(1, .int (1 : Int32)), (0, .int x0)]) hx hb dJ6_numberOfTrailingZeros_0f7a4_18 rfl hl (by decide) rfl (fun ls hl => ?_)
    exact w_J6_numberOfTrailingZeros_0f7a4_19 C0 hK x0 (1 : Int32) hf _ _ hP hD hS ls (lv_sub hl [1, 0] rfl)
  · replace hf := (if_neg c_5).symm.trans hf
    refine lv_iload_n hx hb dJ6_numberOfTrailingZeros_0f7a4_12 rfl (lv_at hl 0 rfl) ?_
    refine lv_bipush (v := 32) hx hb dJ6_numberOfTrailingZeros_0f7a4_13 (by decide) ?_
    refine lv_iand hx hb dJ6_numberOfTrailingZeros_0f7a4_15 ?_
    have h9 := Option.some.inj hf
    have h8 := congrArg Prod.fst h9
    have h7 := congrArg Prod.snd h9
    exact W.iret (v := (x0 &&& (32 : Int32))) hx hb hr (fun t ht hW => ⟨⟨(x0 &&& (32 : Int32)), (), rfl, ⟨h8, h7⟩, by rw [ht]; exact hP, va_K.moved hW.alike hK, hD⟩, hS.F ht⟩) hS.2.2 dJ6_numberOfTrailingZeros_0f7a4_16
set_option maxHeartbeats 4000000 in
set_option maxRecDepth 100000 in
theorem w_J6_numberOfTrailingZeros_0f7a4_0 {p : Program} {l : Launch} {e : Env} {s : State} {m : MethodId} {args : Array Value} {below : List Frame} {meth : Method} {c : Code} {A : Nat → Prop} {dC : Nat → ClassId} {dI : Nat → Nat → Nat} {cB cI cJ cZ : ClassId}  {out : Int32 × Unit} (C0 : Cx RJ6 cJ6_numberOfTrailingZeros_0f7a4 (some .int) 2 wsJ6_numberOfTrailingZeros_0f7a4 p s m args meth c A) (hK : va_K (dC, dI) vwCl (tysG cB cI cJ cZ) s)  : g_J6_numberOfTrailingZeros_0f7a4_0 p l e s m args below meth c A dC dI cB cI cJ cZ   out (f_J6_numberOfTrailingZeros_0f7a4  ) := by
  obtain ⟨hx, hb, hr, hml, hown, hts, hlocks, hA⟩ := id C0
  intro x0 hf H locs hP hD hS ls hl
  replace hf : ((f_J6_numberOfTrailingZeros_0f7a4_8 ((x0 ^^^ (-1 : Int32)) &&& (x0 - (1 : Int32)))) : Option (Int32 × Unit)) = some out := hf
  refine lv_iload_n hx hb dJ6_numberOfTrailingZeros_0f7a4_0 rfl (lv_at hl 0 rfl) ?_
  refine lv_iconst (v := -1) hx hb dJ6_numberOfTrailingZeros_0f7a4_1 (by decide) ?_
  refine lv_ixor hx hb dJ6_numberOfTrailingZeros_0f7a4_2 ?_
  refine lv_iload_n hx hb dJ6_numberOfTrailingZeros_0f7a4_3 rfl (lv_at hl 0 rfl) ?_
  refine lv_iconst (v := 1) hx hb dJ6_numberOfTrailingZeros_0f7a4_4 (by decide) ?_
  refine lv_isub hx hb dJ6_numberOfTrailingZeros_0f7a4_5 ?_
  refine lv_iand hx hb dJ6_numberOfTrailingZeros_0f7a4_6 ?_
  refine lv_istore_n (lv' := [(0, .int ((x0 ^^^ (-1 : Int32)) &&& (x0 - (1 : Int32))))]) hx hb dJ6_numberOfTrailingZeros_0f7a4_7 rfl hl (by decide) rfl (fun ls hl => ?_)
  exact w_J6_numberOfTrailingZeros_0f7a4_8 C0 hK ((x0 ^^^ (-1 : Int32)) &&& (x0 - (1 : Int32))) hf _ _ hP hD hS ls (lv_sub hl [0] rfl)
theorem nd_J6_numberOfTrailingZeros_0f7a4 : yJ6_numberOfTrailingZeros_0f7a4.cls ≠ "java/lang/invoke/MethodHandle" ∧ yJ6_numberOfTrailingZeros_0f7a4.cls ≠ "java/lang/invoke/VarHandle" ∧ (parseMethodDescriptor yJ6_numberOfTrailingZeros_0f7a4.desc).map (fun d => d.parameters.length) = some 1 := by decide +kernel
set_option maxHeartbeats 4000000 in
set_option maxRecDepth 100000 in
theorem c_J6_numberOfTrailingZeros_0f7a4 (l : Launch) (dC : Nat → ClassId) (dI : Nat → Nat → Nat) (cB cI cJ cZ : ClassId) (sz : Nat)  (x0 : Int32) (out : Int32 × Unit) (hf : f_J6_numberOfTrailingZeros_0f7a4  x0 = some out) : Met l yJ6_numberOfTrailingZeros_0f7a4 wsJ6_numberOfTrailingZeros_0f7a4 rm_J6_numberOfTrailingZeros_0f7a4 (va_Pc [.int x0] (fun U => U.heap.size = sz ∧ va_P (dC, dI) vwCl (ws_J6_numberOfTrailingZeros_0f7a4 cB cI cJ cZ  ) U.heap ∧ va_K (dC, dI) vwCl (tysG cB cI cJ cZ) U ∧ va_D (fun _ => True) (ws_J6_numberOfTrailingZeros_0f7a4 cB cI cJ cZ  ))) (qc_J6_numberOfTrailingZeros_0f7a4 (va_A (ws_J6_numberOfTrailingZeros_0f7a4 cB cI cJ cZ  ) sz) dC dI cB cI cJ cZ   out) 0 0 (va_A (ws_J6_numberOfTrailingZeros_0f7a4 cB cI cJ cZ  ) sz) := by
  refine Met.ofW (cc := cJ6_numberOfTrailingZeros_0f7a4) (maxL := 2) (ret := (some .int)) (by decide) rfl ?_
  intro p e s m args below meth c s₁ B hml hv
  obtain ⟨rfl, hsz, hP, hK, hD0⟩ := hv
  subst hsz
  have hD := hD0.self (sz := s.heap.size)
  generalize hAe : va_A (ws_J6_numberOfTrailingZeros_0f7a4 cB cI cJ cZ  ) s.heap.size = A at hD ⊢
  have hA : ∀ q : Nat, s.heap.size ≤ q → A q := fun q h => by rw [← hAe]; exact Or.inr h
  have hl := lv_entry ([.int x0]) (n := 2) (Nat.le_of_ble_eq_true rfl)
  rw [lg_entry_eq]
  generalize (lg_sl ([.int x0]) ++ List.replicate (2 - (lg_sl ([.int x0])).length) Slot.unset).toArray = ls at hl ⊢
  have hl : lv_has ls 2 [(0, .int x0)] := hl
  exact w_J6_numberOfTrailingZeros_0f7a4_0 ⟨B.exec, B.bytes, B.returns, hml, findClass_of_methodNamed B.named, atoms_spec (ws := wsJ6_numberOfTrailingZeros_0f7a4) B.pre, B.notSynchronized, hA⟩ hK x0 hf _ _ hP hD va_S.rf ls (lv_sub hl [0] rfl)
-- J13.numberOfTrailingZeros(J)I: 16 instructions
abbrev ws_J13_numberOfTrailingZeros_95d88 (cB cI cJ cZ : ClassId)  : va_W := []
abbrev rm_J13_numberOfTrailingZeros_95d88 : Room := { frames := 1, cells := 0, slots := 0, locals := 21 }
def f_J13_numberOfTrailingZeros_95d88_25   (y0 : Int32) : Option (Int32 × Unit) :=
  some ((y0, ()))
def f_J13_numberOfTrailingZeros_95d88_3   (x0 : Int64) (x2 : Int32) : Option (Int32 × Unit) :=
  if x2 = 0 then
  ((f_J6_numberOfTrailingZeros_0f7a4 (Int64.toInt32 ((Int64.toUInt64 x0 >>> (Int64.toUInt64 (Int32.toInt64 (32 : Int32)) &&& Int64.toUInt64 63)).toInt64))).bind (fun o_3 =>
  f_J13_numberOfTrailingZeros_95d88_25 ((32 : Int32) + o_3.1)))
  else
  ((f_J6_numberOfTrailingZeros_0f7a4 x2).bind (fun o_2 =>
  f_J13_numberOfTrailingZeros_95d88_25 o_2.1))
def f_J13_numberOfTrailingZeros_95d88   (x0 : Int64) : Option (Int32 × Unit) :=
  f_J13_numberOfTrailingZeros_95d88_3 x0 (Int64.toInt32 x0)
abbrev qc_J13_numberOfTrailingZeros_95d88 (A : Nat → Prop) (dC : Nat → ClassId) (dI : Nat → Nat → Nat) (cB cI cJ cZ : ClassId)  (out : Int32 × Unit) : Array Value → State → Outcome → State → Prop := va_Qi (fun (r : Int32) (u : Unit) => r = out.1 ∧ u = out.2) (fun (u : Unit) (t : State) => va_P (dC, dI) vwCl (ws_J13_numberOfTrailingZeros_95d88 cB cI cJ cZ  ) t.heap ∧ va_K (dC, dI) vwCl (tysG cB cI cJ cZ) t ∧ va_D A (ws_J13_numberOfTrailingZeros_95d88 cB cI cJ cZ  )) A
abbrev g_J13_numberOfTrailingZeros_95d88_25 (p : Program) (l : Launch) (e : Env) (s : State) (m : MethodId) (args : Array Value) (below : List Frame) (meth : Method) (c : Code) (A : Nat → Prop) (dC : Nat → ClassId) (dI : Nat → Nat → Nat) (cB cI cJ cZ : ClassId)  (out : Int32 × Unit) (k : Int32 → Option (Int32 × Unit)) : Prop := ∀ (y0 : Int32), k y0 = some out → ∀ (H : Heap) (locs : List Loc), va_P (dC, dI) vwCl (ws_J13_numberOfTrailingZeros_95d88 cB cI cJ cZ  ) H → va_D A (ws_J13_numberOfTrailingZeros_95d88 cB cI cJ cZ  ) → va_S A s.heap H locs → ∀ (ls : Array Slot), lv_has ls 3 [] → W p l e (headSpec wsJ13_numberOfTrailingZeros_95d88 rm_J13_numberOfTrailingZeros_95d88).room s m args below meth c H locs 0 0 (MQ below (qc_J13_numberOfTrailingZeros_95d88 A dC dI cB cI cJ cZ   out) args s 0 0 A) (F0 m 25 ls [.int y0])
abbrev g_J13_numberOfTrailingZeros_95d88_3 (p : Program) (l : Launch) (e : Env) (s : State) (m : MethodId) (args : Array Value) (below : List Frame) (meth : Method) (c : Code) (A : Nat → Prop) (dC : Nat → ClassId) (dI : Nat → Nat → Nat) (cB cI cJ cZ : ClassId)  (out : Int32 × Unit) (k : Int64 → Int32 → Option (Int32 × Unit)) : Prop := ∀ (x0 : Int64) (x2 : Int32), k x0 x2 = some out → ∀ (H : Heap) (locs : List Loc), va_P (dC, dI) vwCl (ws_J13_numberOfTrailingZeros_95d88 cB cI cJ cZ  ) H → va_D A (ws_J13_numberOfTrailingZeros_95d88 cB cI cJ cZ  ) → va_S A s.heap H locs → ∀ (ls : Array Slot), lv_has ls 3 [(0, .long x0), (2, .int x2)] → W p l e (headSpec wsJ13_numberOfTrailingZeros_95d88 rm_J13_numberOfTrailingZeros_95d88).room s m args below meth c H locs 0 0 (MQ below (qc_J13_numberOfTrailingZeros_95d88 A dC dI cB cI cJ cZ   out) args s 0 0 A) (F0 m 3 ls [])
abbrev g_J13_numberOfTrailingZeros_95d88_0 (p : Program) (l : Launch) (e : Env) (s : State) (m : MethodId) (args : Array Value) (below : List Frame) (meth : Method) (c : Code) (A : Nat → Prop) (dC : Nat → ClassId) (dI : Nat → Nat → Nat) (cB cI cJ cZ : ClassId)  (out : Int32 × Unit) (k : Int64 → Option (Int32 × Unit)) : Prop := ∀ (x0 : Int64), k x0 = some out → ∀ (H : Heap) (locs : List Loc), va_P (dC, dI) vwCl (ws_J13_numberOfTrailingZeros_95d88 cB cI cJ cZ  ) H → va_D A (ws_J13_numberOfTrailingZeros_95d88 cB cI cJ cZ  ) → va_S A s.heap H locs → ∀ (ls : Array Slot), lv_has ls 3 [(0, .long x0)] → W p l e (headSpec wsJ13_numberOfTrailingZeros_95d88 rm_J13_numberOfTrailingZeros_95d88).room s m args below meth c H locs 0 0 (MQ below (qc_J13_numberOfTrailingZeros_95d88 A dC dI cB cI cJ cZ   out) args s 0 0 A) (F0 m 0 ls [])
set_option maxHeartbeats 4000000 in
set_option maxRecDepth 100000 in
theorem w_J13_numberOfTrailingZeros_95d88_25 {p : Program} {l : Launch} {e : Env} {s : State} {m : MethodId} {args : Array Value} {below : List Frame} {meth : Method} {c : Code} {A : Nat → Prop} {dC : Nat → ClassId} {dI : Nat → Nat → Nat} {cB cI cJ cZ : ClassId}  {out : Int32 × Unit} (C0 : Cx RJ13 cJ13_numberOfTrailingZeros_95d88 (some .int) 3 wsJ13_numberOfTrailingZeros_95d88 p s m args meth c A) (hK : va_K (dC, dI) vwCl (tysG cB cI cJ cZ) s)  : g_J13_numberOfTrailingZeros_95d88_25 p l e s m args below meth c A dC dI cB cI cJ cZ   out (f_J13_numberOfTrailingZeros_95d88_25  ) := by
  obtain ⟨hx, hb, hr, hml, hown, hts, hlocks, hA⟩ := id C0
  intro y0 hf H locs hP hD hS ls hl
  replace hf : ((some ((y0, ()))) : Option (Int32 × Unit)) = some out := hf
  have h9 := Option.some.inj hf
  have h8 := congrArg Prod.fst h9
  have h7 := congrArg Prod.snd h9
  exact W.iret (v := y0) hx hb hr (fun t ht hW => ⟨⟨y0, (), rfl, ⟨h8, h7⟩, by rw [ht]; exact hP, va_K.moved hW.alike hK, hD⟩, hS.F ht⟩) hS.2.2 dJ13_numberOfTrailingZeros_95d88_25
set_option maxHeartbeats 4000000 in
set_option maxRecDepth 100000 in
theorem w_J13_numberOfTrailingZeros_95d88_3 {p : Program} {l : Launch} {e : Env} {s : State} {m : MethodId} {args : Array Value} {below : List Frame} {meth : Method} {c : Code} {A : Nat → Prop} {dC : Nat → ClassId} {dI : Nat → Nat → Nat} {cB cI cJ cZ : ClassId}  {out : Int32 × Unit} (C0 : Cx RJ13 cJ13_numberOfTrailingZeros_95d88 (some .int) 3 wsJ13_numberOfTrailingZeros_95d88 p s m args meth c A) (hK : va_K (dC, dI) vwCl (tysG cB cI cJ cZ) s)  : g_J13_numberOfTrailingZeros_95d88_3 p l e s m args below meth c A dC dI cB cI cJ cZ   out (f_J13_numberOfTrailingZeros_95d88_3  ) := by
  obtain ⟨hx, hb, hr, hml, hown, hts, hlocks, hA⟩ := id C0
  intro x0 x2 hf H locs hP hD hS ls hl
  replace hf : ((if x2 = 0 then
  ((f_J6_numberOfTrailingZeros_0f7a4 (Int64.toInt32 ((Int64.toUInt64 x0 >>> (Int64.toUInt64 (Int32.toInt64 (32 : Int32)) &&& Int64.toUInt64 63)).toInt64))).bind (fun o_3 =>
  f_J13_numberOfTrailingZeros_95d88_25 ((32 : Int32) + o_3.1)))
  else
  ((f_J6_numberOfTrailingZeros_0f7a4 x2).bind (fun o_2 =>
  f_J13_numberOfTrailingZeros_95d88_25 o_2.1))) : Option (Int32 × Unit)) = some out := hf
  refine lv_iload_n hx hb dJ13_numberOfTrailingZeros_95d88_3 rfl (lv_at hl 1 rfl) ?_
  refine lv_if_ne (tgt := 21) hx hb dJ13_numberOfTrailingZeros_95d88_4 (by decide) (fun c_1 => ?_) (fun c_1 => ?_)
  · replace hf := (if_neg c_1).symm.trans hf
    refine lv_iload_n hx hb dJ13_numberOfTrailingZeros_95d88_21 rfl (lv_at hl 1 rfl) ?_
    obtain ⟨o_2, ho_2, hf⟩ := gd_bd hf
    have hPc := hP.sub (ws' := ws_J6_numberOfTrailingZeros_0f7a4 cB cI cJ cZ  ) [] rfl
    have hDc := hD.sub (ws' := ws_J6_numberOfTrailingZeros_0f7a4 cB cI cJ cZ  ) [] (by decide) rfl
    have hFc := va_free (wc := ws_J6_numberOfTrailingZeros_0f7a4 cB cI cJ cZ  ) hD hS hA [] rfl
    refine va_calli (va_runS (As := [.int x2]) (rest := []) ⟨hx, hb, hml, hown, hts⟩ (c_J6_numberOfTrailingZeros_0f7a4 l dC dI cB cI cJ cZ H.size x2 o_2 ho_2) (va_cwS 1 hts gJ13_numberOfTrailingZeros_95d88_J6_numberOfTrailingZeros_0f7a4 rfl rfl rfl nd_J6_numberOfTrailingZeros_0f7a4 ⟨Nat.le_of_ble_eq_true rfl, Nat.le_of_ble_eq_true rfl⟩) ⟨fun a U g mk q => by obtain ⟨q0, q1, qP, qK, qD⟩ := q; exact ⟨q0, q1, qP, va_K.moved (u := U) (U := U.calling g mk a) (Vm.Alike.refl U.vm) qK, qD⟩, fun U hU hW => ⟨rfl, by rw [hU], by rw [hU]; exact hPc, va_K.moved hW.alike hK, hDc.weaken (fun _ _ _ _ => trivial)⟩⟩ rfl rfl hl.1 rfl (lv_room (Nat.le_of_ble_eq_true rfl)) dJ13_numberOfTrailingZeros_95d88_22 ⟨Nat.le_of_ble_eq_true rfl, Nat.le_of_ble_eq_true rfl⟩) hS (fun q _ h => hFc q h) hFc (fun r_2 u_2 t H1 locs ht hvm hw hB hz1 hk1 hS => ?_)
    obtain ⟨rfl, rfl⟩ := hw
    obtain ⟨hP1, hK1, hD1⟩ := hB
    rw [ht] at hP1
    obtain ⟨hP, hD⟩ := va_join (wr := []) (w1 := ws_J6_numberOfTrailingZeros_0f7a4 cB cI cJ cZ  ) hP hD [] [] rfl rfl (by decide) (by decide) hk1 hFc hP1 hD1
    generalize H1 = H at hP hS ⊢
    have hP : va_P (dC, dI) vwCl (ws_J13_numberOfTrailingZeros_95d88 cB cI cJ cZ  ) H := hP.sub [] rfl
    have hD : va_D A (ws_J13_numberOfTrailingZeros_95d88 cB cI cJ cZ  ) := hD.sub [] (by decide) rfl
    exact w_J13_numberOfTrailingZeros_95d88_25 C0 hK o_2.1 hf _ _ hP hD hS ls (lv_sub hl [] rfl)
  · replace hf := (if_pos c_1).symm.trans hf
    refine lv_bipush (v := 32) hx hb dJ13_numberOfTrailingZeros_95d88_7 (by decide) ?_
    refine lv_lload_n hx hb dJ13_numberOfTrailingZeros_95d88_9 rfl (lv_at hl 0 rfl) ?_
    refine lv_bipush (v := 32) hx hb dJ13_numberOfTrailingZeros_95d88_10 (by decide) ?_
    refine lv_lushr (v := (Int64.toUInt64 x0 >>> (Int64.toUInt64 (Int32.toInt64 (32 : Int32)) &&& Int64.toUInt64 63)).toInt64) hx hb dJ13_numberOfTrailingZeros_95d88_12 rfl ?_
    refine lv_l2i (v := (Int64.toInt32 ((Int64.toUInt64 x0 >>> (Int64.toUInt64 (Int32.toInt64 (32 : Int32)) &&& Int64.toUInt64 63)).toInt64))) hx hb dJ13_numberOfTrailingZeros_95d88_13 rfl ?_
    obtain ⟨o_3, ho_3, hf⟩ := gd_bd hf
    have hPc := hP.sub (ws' := ws_J6_numberOfTrailingZeros_0f7a4 cB cI cJ cZ  ) [] rfl
    have hDc := hD.sub (ws' := ws_J6_numberOfTrailingZeros_0f7a4 cB cI cJ cZ  ) [] (by decide) rfl
    have hFc := va_free (wc := ws_J6_numberOfTrailingZeros_0f7a4 cB cI cJ cZ  ) hD hS hA [] rfl
    refine va_calli (va_runS (As := [.int (Int64.toInt32 ((Int64.toUInt64 x0 >>> (Int64.toUInt64 (Int32.toInt64 (32 : Int32)) &&& Int64.toUInt64 63)).toInt64))]) (rest := [.int (32 : Int32)]) ⟨hx, hb, hml, hown, hts⟩ (c_J6_numberOfTrailingZeros_0f7a4 l dC dI cB cI cJ cZ H.size (Int64.toInt32 ((Int64.toUInt64 x0 >>> (Int64.toUInt64 (Int32.toInt64 (32 : Int32)) &&& Int64.toUInt64 63)).toInt64)) o_3 ho_3) (va_cwS 1 hts gJ13_numberOfTrailingZeros_95d88_J6_numberOfTrailingZeros_0f7a4 rfl rfl rfl nd_J6_numberOfTrailingZeros_0f7a4 ⟨Nat.le_of_ble_eq_true rfl, Nat.le_of_ble_eq_true rfl⟩) ⟨fun a U g mk q => by obtain ⟨q0, q1, qP, qK, qD⟩ := q; exact ⟨q0, q1, qP, va_K.moved (u := U) (U := U.calling g mk a) (Vm.Alike.refl U.vm) qK, qD⟩, fun U hU hW => ⟨rfl, by rw [hU], by rw [hU]; exact hPc, va_K.moved hW.alike hK, hDc.weaken (fun _ _ _ _ => trivial)⟩⟩ rfl rfl hl.1 rfl (lv_room (Nat.le_of_ble_eq_true rfl)) dJ13_numberOfTrailingZeros_95d88_14 ⟨Nat.le_of_ble_eq_true rfl, Nat.le_of_ble_eq_true rfl⟩) hS (fun q _ h => hFc q h) hFc (fun r_3 u_3 t H1 locs ht hvm hw hB hz1 hk1 hS => ?_)
    obtain ⟨rfl, rfl⟩ := hw
    obtain ⟨hP1, hK1, hD1⟩ := hB
    rw [ht] at hP1
    obtain ⟨hP, hD⟩ := va_join (wr := []) (w1 := ws_J6_numberOfTrailingZeros_0f7a4 cB cI cJ cZ  ) hP hD [] [] rfl rfl (by decide) (by decide) hk1 hFc hP1 hD1
    generalize H1 = H at hP hS ⊢
    have hP : va_P (dC, dI) vwCl (ws_J13_numberOfTrailingZeros_95d88 cB cI cJ cZ  ) H := hP.sub [] rfl
    have hD : va_D A (ws_J13_numberOfTrailingZeros_95d88 cB cI cJ cZ  ) := hD.sub [] (by decide) rfl
    refine lv_iadd hx hb dJ13_numberOfTrailingZeros_95d88_17 ?_
    refine lv_goto (tgt := 25) hx hb dJ13_numberOfTrailingZeros_95d88_18 (by decide) ?_
    exact w_J13_numberOfTrailingZeros_95d88_25 C0 hK ((32 : Int32) + o_3.1) hf _ _ hP hD hS ls (lv_sub hl [] rfl)
set_option maxHeartbeats 4000000 in
set_option maxRecDepth 100000 in
theorem w_J13_numberOfTrailingZeros_95d88_0 {p : Program} {l : Launch} {e : Env} {s : State} {m : MethodId} {args : Array Value} {below : List Frame} {meth : Method} {c : Code} {A : Nat → Prop} {dC : Nat → ClassId} {dI : Nat → Nat → Nat} {cB cI cJ cZ : ClassId}  {out : Int32 × Unit} (C0 : Cx RJ13 cJ13_numberOfTrailingZeros_95d88 (some .int) 3 wsJ13_numberOfTrailingZeros_95d88 p s m args meth c A) (hK : va_K (dC, dI) vwCl (tysG cB cI cJ cZ) s)  : g_J13_numberOfTrailingZeros_95d88_0 p l e s m args below meth c A dC dI cB cI cJ cZ   out (f_J13_numberOfTrailingZeros_95d88  ) := by
  obtain ⟨hx, hb, hr, hml, hown, hts, hlocks, hA⟩ := id C0
  intro x0 hf H locs hP hD hS ls hl
  replace hf : ((f_J13_numberOfTrailingZeros_95d88_3 x0 (Int64.toInt32 x0)) : Option (Int32 × Unit)) = some out := hf
  refine lv_lload_n hx hb dJ13_numberOfTrailingZeros_95d88_0 rfl (lv_at hl 0 rfl) ?_
  refine lv_l2i (v := (Int64.toInt32 x0)) hx hb dJ13_numberOfTrailingZeros_95d88_1 rfl ?_
  refine lv_istore_n (lv' := [(2, .int (Int64.toInt32 x0)), (0, .long x0)]) hx hb dJ13_numberOfTrailingZeros_95d88_2 rfl hl (by decide) rfl (fun ls hl => ?_)
  exact w_J13_numberOfTrailingZeros_95d88_3 C0 hK x0 (Int64.toInt32 x0) hf _ _ hP hD hS ls (lv_sub hl [1, 0] rfl)
theorem nd_J13_numberOfTrailingZeros_95d88 : yJ13_numberOfTrailingZeros_95d88.cls ≠ "java/lang/invoke/MethodHandle" ∧ yJ13_numberOfTrailingZeros_95d88.cls ≠ "java/lang/invoke/VarHandle" ∧ (parseMethodDescriptor yJ13_numberOfTrailingZeros_95d88.desc).map (fun d => d.parameters.length) = some 1 := by decide +kernel
set_option maxHeartbeats 4000000 in
set_option maxRecDepth 100000 in
theorem c_J13_numberOfTrailingZeros_95d88 (l : Launch) (dC : Nat → ClassId) (dI : Nat → Nat → Nat) (cB cI cJ cZ : ClassId) (sz : Nat)  (x0 : Int64) (out : Int32 × Unit) (hf : f_J13_numberOfTrailingZeros_95d88  x0 = some out) : Met l yJ13_numberOfTrailingZeros_95d88 wsJ13_numberOfTrailingZeros_95d88 rm_J13_numberOfTrailingZeros_95d88 (va_Pc [.long x0] (fun U => U.heap.size = sz ∧ va_P (dC, dI) vwCl (ws_J13_numberOfTrailingZeros_95d88 cB cI cJ cZ  ) U.heap ∧ va_K (dC, dI) vwCl (tysG cB cI cJ cZ) U ∧ va_D (fun _ => True) (ws_J13_numberOfTrailingZeros_95d88 cB cI cJ cZ  ))) (qc_J13_numberOfTrailingZeros_95d88 (va_A (ws_J13_numberOfTrailingZeros_95d88 cB cI cJ cZ  ) sz) dC dI cB cI cJ cZ   out) 0 0 (va_A (ws_J13_numberOfTrailingZeros_95d88 cB cI cJ cZ  ) sz) := by
  refine Met.ofW (cc := cJ13_numberOfTrailingZeros_95d88) (maxL := 3) (ret := (some .int)) (by decide) rfl ?_
  intro p e s m args below meth c s₁ B hml hv
  obtain ⟨rfl, hsz, hP, hK, hD0⟩ := hv
  subst hsz
  have hD := hD0.self (sz := s.heap.size)
  generalize hAe : va_A (ws_J13_numberOfTrailingZeros_95d88 cB cI cJ cZ  ) s.heap.size = A at hD ⊢
  have hA : ∀ q : Nat, s.heap.size ≤ q → A q := fun q h => by rw [← hAe]; exact Or.inr h
  have hl := lv_entry ([.long x0]) (n := 3) (Nat.le_of_ble_eq_true rfl)
  rw [lg_entry_eq]
  generalize (lg_sl ([.long x0]) ++ List.replicate (3 - (lg_sl ([.long x0])).length) Slot.unset).toArray = ls at hl ⊢
  have hl : lv_has ls 3 [(0, .long x0)] := hl
  exact w_J13_numberOfTrailingZeros_95d88_0 ⟨B.exec, B.bytes, B.returns, hml, findClass_of_methodNamed B.named, atoms_spec (ws := wsJ13_numberOfTrailingZeros_95d88) B.pre, B.notSynchronized, hA⟩ hK x0 hf _ _ hP hD va_S.rf ls (lv_sub hl [0] rfl)
