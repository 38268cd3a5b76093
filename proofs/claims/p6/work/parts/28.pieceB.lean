-- X0.isOfKind(III)Z: 45 instructions
abbrev ws_X0_isOfKind (cB cI cJ cZ : ClassId)  : va_W := []
abbrev rm_X0_isOfKind : Room := { frames := 0, cells := 0, slots := 0, locals := 0 }
theorem lk_X0_isOfKind_f57 : Cond.fieldLink RX0 57 "LinkedCovers$Piece" "AXES" "[I" ∈ wsX0_isOfKind := by decide +kernel
def f_X0_isOfKind_73   (y0 : Int32) : Option (Int32 × Unit) :=
  if ¬ (y0 = 0 ∨ y0 = 1) then none else
  some ((y0, ()))
def f_X0_isOfKind_72    : Option (Int32 × Unit) :=
  f_X0_isOfKind_73 (0 : Int32)
def f_X0_isOfKind_88   (y0 : Int32) : Option (Int32 × Unit) :=
  if ¬ (y0 = 0 ∨ y0 = 1) then none else
  some ((y0, ()))
def f_X0_isOfKind_87    : Option (Int32 × Unit) :=
  f_X0_isOfKind_88 (0 : Int32)
def f_X0_isOfKind_32   (x0 : Int32) (x1 : Int32) (x2 : Int32) (x3 : Int32) (y0 : Int32) : Option (Int32 × Unit) :=
  if (Int32.toInt x0 < 0 ∨ 2 < Int32.toInt x0) then
  (some (((1 : Int32), ())))
  else
  if Int32.toInt x0 = 0 then
  (if x1 = 0 then
  (if x2 = 0 then
  (f_X0_isOfKind_73 (1 : Int32))
  else
  (f_X0_isOfKind_72 ))
  else
  (f_X0_isOfKind_72 ))
  else
  if Int32.toInt x0 = 1 then
  (if x3 = 0 then
  (f_X0_isOfKind_87 )
  else
  (if y0 = 0 then
  (f_X0_isOfKind_88 (1 : Int32))
  else
  (f_X0_isOfKind_87 )))
  else
  (if ¬ (x3 = 0 ∨ x3 = 1) then none else
  some ((x3, ())))
def f_X0_isOfKind_18   (x0 : Int32) (x1 : Int32) (x2 : Int32) (y0 : Int32) : Option (Int32 × Unit) :=
  if ((x2 >>> ((2 : Int32) &&& 31)) &&& (1 : Int32)) = 0 then
  (f_X0_isOfKind_32 x0 x1 x2 y0 (0 : Int32))
  else
  (f_X0_isOfKind_32 x0 x1 x2 y0 (1 : Int32))
def f_X0_isOfKind   (x0 : Int32) (x1 : Int32) (x2 : Int32) : Option (Int32 × Unit) :=
  if (((x1 * (3 : Int32)) + (2 : Int32)) < 0 ∨ 18 ≤ Int32.toNatClampNeg ((x1 * (3 : Int32)) + (2 : Int32))) then none else
  if (tab_AXES (Int32.toNatClampNeg ((x1 * (3 : Int32)) + (2 : Int32)))) = (2 : Int32) then
  (f_X0_isOfKind_18 x0 x1 x2 (1 : Int32))
  else
  (f_X0_isOfKind_18 x0 x1 x2 (0 : Int32))
abbrev qc_X0_isOfKind (A : Nat → Prop) (dC : Nat → ClassId) (dI : Nat → Nat → Nat) (cB cI cJ cZ : ClassId)  (out : Int32 × Unit) : Array Value → State → Outcome → State → Prop := va_Qi (fun (r : Int32) (u : Unit) => r = out.1 ∧ u = out.2) (fun (u : Unit) (t : State) => va_P (dC, dI) vwCl (ws_X0_isOfKind cB cI cJ cZ  ) t.heap ∧ va_K (dC, dI) vwCl (tysG cB cI cJ cZ) t ∧ va_D A (ws_X0_isOfKind cB cI cJ cZ  )) A
abbrev g_X0_isOfKind_73 (p : Program) (l : Launch) (e : Env) (s : State) (m : MethodId) (args : Array Value) (below : List Frame) (meth : Method) (c : Code) (A : Nat → Prop) (dC : Nat → ClassId) (dI : Nat → Nat → Nat) (cB cI cJ cZ : ClassId)  (out : Int32 × Unit) (k : Int32 → Option (Int32 × Unit)) : Prop := ∀ (y0 : Int32), k y0 = some out → ∀ (H : Heap) (locs : List Loc), va_P (dC, dI) vwCl (ws_X0_isOfKind cB cI cJ cZ  ) H → va_D A (ws_X0_isOfKind cB cI cJ cZ  ) → va_S A s.heap H locs → ∀ (ls : Array Slot), lv_has ls 5 [] → W p l e (headSpec wsX0_isOfKind rm_X0_isOfKind).room s m args below meth c H locs 0 0 (MQ below (qc_X0_isOfKind A dC dI cB cI cJ cZ   out) args s 0 0 A) (F0 m 73 ls [.int y0])
abbrev g_X0_isOfKind_72 (p : Program) (l : Launch) (e : Env) (s : State) (m : MethodId) (args : Array Value) (below : List Frame) (meth : Method) (c : Code) (A : Nat → Prop) (dC : Nat → ClassId) (dI : Nat → Nat → Nat) (cB cI cJ cZ : ClassId)  (out : Int32 × Unit) (k : Option (Int32 × Unit)) : Prop := ∀ (_ : Unit), k = some out → ∀ (H : Heap) (locs : List Loc), va_P (dC, dI) vwCl (ws_X0_isOfKind cB cI cJ cZ  ) H → va_D A (ws_X0_isOfKind cB cI cJ cZ  ) → va_S A s.heap H locs → ∀ (ls : Array Slot), lv_has ls 5 [] → W p l e (headSpec wsX0_isOfKind rm_X0_isOfKind).room s m args below meth c H locs 0 0 (MQ below (qc_X0_isOfKind A dC dI cB cI cJ cZ   out) args s 0 0 A) (F0 m 72 ls [])
abbrev g_X0_isOfKind_88 (p : Program) (l : Launch) (e : Env) (s : State) (m : MethodId) (args : Array Value) (below : List Frame) (meth : Method) (c : Code) (A : Nat → Prop) (dC : Nat → ClassId) (dI : Nat → Nat → Nat) (cB cI cJ cZ : ClassId)  (out : Int32 × Unit) (k : Int32 → Option (Int32 × Unit)) : Prop := ∀ (y0 : Int32), k y0 = some out → ∀ (H : Heap) (locs : List Loc), va_P (dC, dI) vwCl (ws_X0_isOfKind cB cI cJ cZ  ) H → va_D A (ws_X0_isOfKind cB cI cJ cZ  ) → va_S A s.heap H locs → ∀ (ls : Array Slot), lv_has ls 5 [] → W p l e (headSpec wsX0_isOfKind rm_X0_isOfKind).room s m args below meth c H locs 0 0 (MQ below (qc_X0_isOfKind A dC dI cB cI cJ cZ   out) args s 0 0 A) (F0 m 88 ls [.int y0])
abbrev g_X0_isOfKind_87 (p : Program) (l : Launch) (e : Env) (s : State) (m : MethodId) (args : Array Value) (below : List Frame) (meth : Method) (c : Code) (A : Nat → Prop) (dC : Nat → ClassId) (dI : Nat → Nat → Nat) (cB cI cJ cZ : ClassId)  (out : Int32 × Unit) (k : Option (Int32 × Unit)) : Prop := ∀ (_ : Unit), k = some out → ∀ (H : Heap) (locs : List Loc), va_P (dC, dI) vwCl (ws_X0_isOfKind cB cI cJ cZ  ) H → va_D A (ws_X0_isOfKind cB cI cJ cZ  ) → va_S A s.heap H locs → ∀ (ls : Array Slot), lv_has ls 5 [] → W p l e (headSpec wsX0_isOfKind rm_X0_isOfKind).room s m args below meth c H locs 0 0 (MQ below (qc_X0_isOfKind A dC dI cB cI cJ cZ   out) args s 0 0 A) (F0 m 87 ls [])
abbrev g_X0_isOfKind_32 (p : Program) (l : Launch) (e : Env) (s : State) (m : MethodId) (args : Array Value) (below : List Frame) (meth : Method) (c : Code) (A : Nat → Prop) (dC : Nat → ClassId) (dI : Nat → Nat → Nat) (cB cI cJ cZ : ClassId)  (out : Int32 × Unit) (k : Int32 → Int32 → Int32 → Int32 → Int32 → Option (Int32 × Unit)) : Prop := ∀ (x0 : Int32) (x1 : Int32) (x2 : Int32) (x3 : Int32) (y0 : Int32), k x0 x1 x2 x3 y0 = some out → ∀ (H : Heap) (locs : List Loc), va_P (dC, dI) vwCl (ws_X0_isOfKind cB cI cJ cZ  ) H → va_D A (ws_X0_isOfKind cB cI cJ cZ  ) → va_S A s.heap H locs → ∀ (ls : Array Slot), lv_has ls 5 [(0, .int x0), (1, .int x1), (2, .int x2), (3, .int x3)] → W p l e (headSpec wsX0_isOfKind rm_X0_isOfKind).room s m args below meth c H locs 0 0 (MQ below (qc_X0_isOfKind A dC dI cB cI cJ cZ   out) args s 0 0 A) (F0 m 32 ls [.int y0])
abbrev g_X0_isOfKind_18 (p : Program) (l : Launch) (e : Env) (s : State) (m : MethodId) (args : Array Value) (below : List Frame) (meth : Method) (c : Code) (A : Nat → Prop) (dC : Nat → ClassId) (dI : Nat → Nat → Nat) (cB cI cJ cZ : ClassId)  (out : Int32 × Unit) (k : Int32 → Int32 → Int32 → Int32 → Option (Int32 × Unit)) : Prop := ∀ (x0 : Int32) (x1 : Int32) (x2 : Int32) (y0 : Int32), k x0 x1 x2 y0 = some out → ∀ (H : Heap) (locs : List Loc), va_P (dC, dI) vwCl (ws_X0_isOfKind cB cI cJ cZ  ) H → va_D A (ws_X0_isOfKind cB cI cJ cZ  ) → va_S A s.heap H locs → ∀ (ls : Array Slot), lv_has ls 5 [(0, .int x0), (1, .int x1), (2, .int x2)] → W p l e (headSpec wsX0_isOfKind rm_X0_isOfKind).room s m args below meth c H locs 0 0 (MQ below (qc_X0_isOfKind A dC dI cB cI cJ cZ   out) args s 0 0 A) (F0 m 18 ls [.int y0])
abbrev g_X0_isOfKind_0 (p : Program) (l : Launch) (e : Env) (s : State) (m : MethodId) (args : Array Value) (below : List Frame) (meth : Method) (c : Code) (A : Nat → Prop) (dC : Nat → ClassId) (dI : Nat → Nat → Nat) (cB cI cJ cZ : ClassId)  (out : Int32 × Unit) (k : Int32 → Int32 → Int32 → Option (Int32 × Unit)) : Prop := ∀ (x0 : Int32) (x1 : Int32) (x2 : Int32), k x0 x1 x2 = some out → ∀ (H : Heap) (locs : List Loc), va_P (dC, dI) vwCl (ws_X0_isOfKind cB cI cJ cZ  ) H → va_D A (ws_X0_isOfKind cB cI cJ cZ  ) → va_S A s.heap H locs → ∀ (ls : Array Slot), lv_has ls 5 [(0, .int x0), (1, .int x1), (2, .int x2)] → W p l e (headSpec wsX0_isOfKind rm_X0_isOfKind).room s m args below meth c H locs 0 0 (MQ below (qc_X0_isOfKind A dC dI cB cI cJ cZ   out) args s 0 0 A) (F0 m 0 ls [])
set_option maxHeartbeats 4000000 in
set_option maxRecDepth 100000 in
theorem w_X0_isOfKind_73 {p : Program} {l : Launch} {e : Env} {s : State} {m : MethodId} {args : Array Value} {below : List Frame} {meth : Method} {c : Code} {A : Nat → Prop} {dC : Nat → ClassId} {dI : Nat → Nat → Nat} {cB cI cJ cZ : ClassId}  {out : Int32 × Unit} (C0 : Cx RX0 cX0_isOfKind (some .boolean) 5 wsX0_isOfKind p s m args meth c A) (hK : va_K (dC, dI) vwCl (tysG cB cI cJ cZ) s) (hax : ax A s)  : g_X0_isOfKind_73 p l e s m args below meth c A dC dI cB cI cJ cZ   out (f_X0_isOfKind_73  ) := by
  obtain ⟨hx, hb, hr, hml, hown, hts, hlocks, hA⟩ := id C0
  intro y0 hf H locs hP hD hS ls hl
  replace hf : ((if ¬ (y0 = 0 ∨ y0 = 1) then none else
  some ((y0, ()))) : Option (Int32 × Unit)) = some out := hf
  obtain ⟨h_1, hf⟩ := gd_ck hf
  have h9 := Option.some.inj hf
  have h8 := congrArg Prod.fst h9
  have h7 := congrArg Prod.snd h9
  exact W.zret (v := y0) hx hb hr (gd_z h_1) (fun t ht hW => ⟨⟨y0, (), rfl, ⟨h8, h7⟩, by rw [ht]; exact hP, va_K.moved hW.alike hK, hD⟩, hS.F ht⟩) hS.2.2 dX0_isOfKind_73
set_option maxHeartbeats 4000000 in
set_option maxRecDepth 100000 in
theorem w_X0_isOfKind_72 {p : Program} {l : Launch} {e : Env} {s : State} {m : MethodId} {args : Array Value} {below : List Frame} {meth : Method} {c : Code} {A : Nat → Prop} {dC : Nat → ClassId} {dI : Nat → Nat → Nat} {cB cI cJ cZ : ClassId}  {out : Int32 × Unit} (C0 : Cx RX0 cX0_isOfKind (some .boolean) 5 wsX0_isOfKind p s m args meth c A) (hK : va_K (dC, dI) vwCl (tysG cB cI cJ cZ) s) (hax : ax A s)  : g_X0_isOfKind_72 p l e s m args below meth c A dC dI cB cI cJ cZ   out (f_X0_isOfKind_72  ) := by
  obtain ⟨hx, hb, hr, hml, hown, hts, hlocks, hA⟩ := id C0
  intro _ hf H locs hP hD hS ls hl
  replace hf : ((f_X0_isOfKind_73 (0 : Int32)) : Option (Int32 × Unit)) = some out := hf
  refine lv_iconst (v := 0) hx hb dX0_isOfKind_72 (by decide) ?_
  exact w_X0_isOfKind_73 C0 hK hax (0 : Int32) hf _ _ hP hD hS ls (lv_sub hl [] rfl)
set_option maxHeartbeats 4000000 in
set_option maxRecDepth 100000 in
theorem w_X0_isOfKind_88 {p : Program} {l : Launch} {e : Env} {s : State} {m : MethodId} {args : Array Value} {below : List Frame} {meth : Method} {c : Code} {A : Nat → Prop} {dC : Nat → ClassId} {dI : Nat → Nat → Nat} {cB cI cJ cZ : ClassId}  {out : Int32 × Unit} (C0 : Cx RX0 cX0_isOfKind (some .boolean) 5 wsX0_isOfKind p s m args meth c A) (hK : va_K (dC, dI) vwCl (tysG cB cI cJ cZ) s) (hax : ax A s)  : g_X0_isOfKind_88 p l e s m args below meth c A dC dI cB cI cJ cZ   out (f_X0_isOfKind_88  ) := by
  obtain ⟨hx, hb, hr, hml, hown, hts, hlocks, hA⟩ := id C0
  intro y0 hf H locs hP hD hS ls hl
  replace hf : ((if ¬ (y0 = 0 ∨ y0 = 1) then none else
  some ((y0, ()))) : Option (Int32 × Unit)) = some out := hf
  obtain ⟨h_2, hf⟩ := gd_ck hf
  have h9 := Option.some.inj hf
  have h8 := congrArg Prod.fst h9
  have h7 := congrArg Prod.snd h9
  exact W.zret (v := y0) hx hb hr (gd_z h_2) (fun t ht hW => ⟨⟨y0, (), rfl, ⟨h8, h7⟩, by rw [ht]; exact hP, va_K.moved hW.alike hK, hD⟩, hS.F ht⟩) hS.2.2 dX0_isOfKind_88
set_option maxHeartbeats 4000000 in
set_option maxRecDepth 100000 in
theorem w_X0_isOfKind_87 {p : Program} {l : Launch} {e : Env} {s : State} {m : MethodId} {args : Array Value} {below : List Frame} {meth : Method} {c : Code} {A : Nat → Prop} {dC : Nat → ClassId} {dI : Nat → Nat → Nat} {cB cI cJ cZ : ClassId}  {out : Int32 × Unit} (C0 : Cx RX0 cX0_isOfKind (some .boolean) 5 wsX0_isOfKind p s m args meth c A) (hK : va_K (dC, dI) vwCl (tysG cB cI cJ cZ) s) (hax : ax A s)  : g_X0_isOfKind_87 p l e s m args below meth c A dC dI cB cI cJ cZ   out (f_X0_isOfKind_87  ) := by
  obtain ⟨hx, hb, hr, hml, hown, hts, hlocks, hA⟩ := id C0
  intro _ hf H locs hP hD hS ls hl
  replace hf : ((f_X0_isOfKind_88 (0 : Int32)) : Option (Int32 × Unit)) = some out := hf
  refine lv_iconst (v := 0) hx hb dX0_isOfKind_87 (by decide) ?_
  exact w_X0_isOfKind_88 C0 hK hax (0 : Int32) hf _ _ hP hD hS ls (lv_sub hl [] rfl)
set_option maxHeartbeats 4000000 in
set_option maxRecDepth 100000 in
theorem w_X0_isOfKind_32 {p : Program} {l : Launch} {e : Env} {s : State} {m : MethodId} {args : Array Value} {below : List Frame} {meth : Method} {c : Code} {A : Nat → Prop} {dC : Nat → ClassId} {dI : Nat → Nat → Nat} {cB cI cJ cZ : ClassId}  {out : Int32 × Unit} (C0 : Cx RX0 cX0_isOfKind (some .boolean) 5 wsX0_isOfKind p s m args meth c A) (hK : va_K (dC, dI) vwCl (tysG cB cI cJ cZ) s) (hax : ax A s)  : g_X0_isOfKind_32 p l e s m args below meth c A dC dI cB cI cJ cZ   out (f_X0_isOfKind_32  ) := by
  obtain ⟨hx, hb, hr, hml, hown, hts, hlocks, hA⟩ := id C0
  intro x0 x1 x2 x3 y0 hf H locs hP hD hS ls hl
  replace hf : ((if (Int32.toInt x0 < 0 ∨ 2 < Int32.toInt x0) then
  (some (((1 : Int32), ())))
  else
  if Int32.toInt x0 = 0 then
  (if x1 = 0 then
  (if x2 = 0 then
  (f_X0_isOfKind_73 (1 : Int32))
  else
  (f_X0_isOfKind_72 ))
  else
  (f_X0_isOfKind_72 ))
  else
  if Int32.toInt x0 = 1 then
  (if x3 = 0 then
  (f_X0_isOfKind_87 )
  else
  (if y0 = 0 then
  (f_X0_isOfKind_88 (1 : Int32))
  else
  (f_X0_isOfKind_87 )))
  else
  (if ¬ (x3 = 0 ∨ x3 = 1) then none else
  some ((x3, ())))) : Option (Int32 × Unit)) = some out := hf
  refine lv_istore (lv' := [(4, .int y0), (0, .int x0), (1, .int x1), (2, .int x2), (3, .int x3)]) hx hb dX0_isOfKind_32 hl (by decide) rfl (fun ls hl => ?_)
  refine lv_iload_n hx hb dX0_isOfKind_34 rfl (lv_at hl 1 rfl) ?_
  by_cases c_3 : (Int32.toInt x0 < 0 ∨ 2 < Int32.toInt x0)
  · replace hf := (if_pos c_3).symm.trans hf
    refine lv_tableOut (tgt := 91) hx hb dX0_isOfKind_35 c_3 (by decide) ?_
    refine lv_iconst (v := 1) hx hb dX0_isOfKind_91 (by decide) ?_
    have h9 := Option.some.inj hf
    have h8 := congrArg Prod.fst h9
    have h7 := congrArg Prod.snd h9
    exact W.zret (v := (1 : Int32)) hx hb hr rfl (fun t ht hW => ⟨⟨(1 : Int32), (), rfl, ⟨h8, h7⟩, by rw [ht]; exact hP, va_K.moved hW.alike hK, hD⟩, hS.F ht⟩) hS.2.2 dX0_isOfKind_92
  replace hf := (if_neg c_3).symm.trans hf
  by_cases c_4 : Int32.toInt x0 = 0
  · replace hf := (if_pos c_4).symm.trans hf
    refine lv_tableIn (tgt := 60) (off := 25) hx hb dX0_isOfKind_35 (fun q => c_3 (Or.inl q)) (fun q => c_3 (Or.inr q)) (by rw [c_4]; rfl) (by decide) ?_
    refine lv_iload_n hx hb dX0_isOfKind_60 rfl (lv_at hl 2 rfl) ?_
    refine lv_if_ne (tgt := 72) hx hb dX0_isOfKind_61 (by decide) (fun c_5 => ?_) (fun c_5 => ?_)
    · replace hf := (if_neg c_5).symm.trans hf
      exact w_X0_isOfKind_72 C0 hK hax () hf _ _ hP hD hS ls (lv_sub hl [] rfl)
    · replace hf := (if_pos c_5).symm.trans hf
      refine lv_iload_n hx hb dX0_isOfKind_64 rfl (lv_at hl 3 rfl) ?_
      refine lv_if_ne (tgt := 72) hx hb dX0_isOfKind_65 (by decide) (fun c_6 => ?_) (fun c_6 => ?_)
      · replace hf := (if_neg c_6).symm.trans hf
        exact w_X0_isOfKind_72 C0 hK hax () hf _ _ hP hD hS ls (lv_sub hl [] rfl)
      · replace hf := (if_pos c_6).symm.trans hf
        refine lv_iconst (v := 1) hx hb dX0_isOfKind_68 (by decide) ?_
        refine lv_goto (tgt := 73) hx hb dX0_isOfKind_69 (by decide) ?_
        exact w_X0_isOfKind_73 C0 hK hax (1 : Int32) hf _ _ hP hD hS ls (lv_sub hl [] rfl)
  replace hf := (if_neg c_4).symm.trans hf
  by_cases c_7 : Int32.toInt x0 = 1
  · replace hf := (if_pos c_7).symm.trans hf
    refine lv_tableIn (tgt := 74) (off := 39) hx hb dX0_isOfKind_35 (fun q => c_3 (Or.inl q)) (fun q => c_3 (Or.inr q)) (by rw [c_7]; rfl) (by decide) ?_
    refine lv_iload_n hx hb dX0_isOfKind_74 rfl (lv_at hl 4 rfl) ?_
    refine lv_if_eq (tgt := 87) hx hb dX0_isOfKind_75 (by decide) (fun c_8 => ?_) (fun c_8 => ?_)
    · replace hf := (if_pos c_8).symm.trans hf
      exact w_X0_isOfKind_87 C0 hK hax () hf _ _ hP hD hS ls (lv_sub hl [] rfl)
    · replace hf := (if_neg c_8).symm.trans hf
      refine lv_iload hx hb dX0_isOfKind_78 (lv_at hl 0 rfl) ?_
      refine lv_if_ne (tgt := 87) hx hb dX0_isOfKind_80 (by decide) (fun c_9 => ?_) (fun c_9 => ?_)
      · replace hf := (if_neg c_9).symm.trans hf
        exact w_X0_isOfKind_87 C0 hK hax () hf _ _ hP hD hS ls (lv_sub hl [] rfl)
      · replace hf := (if_pos c_9).symm.trans hf
        refine lv_iconst (v := 1) hx hb dX0_isOfKind_83 (by decide) ?_
        refine lv_goto (tgt := 88) hx hb dX0_isOfKind_84 (by decide) ?_
        exact w_X0_isOfKind_88 C0 hK hax (1 : Int32) hf _ _ hP hD hS ls (lv_sub hl [] rfl)
  replace hf := (if_neg c_7).symm.trans hf
  have c_10 : Int32.toInt x0 = 2 := by omega
  refine lv_tableIn (tgt := 89) (off := 54) hx hb dX0_isOfKind_35 (fun q => c_3 (Or.inl q)) (fun q => c_3 (Or.inr q)) (by rw [c_10]; rfl) (by decide) ?_
  refine lv_iload_n hx hb dX0_isOfKind_89 rfl (lv_at hl 4 rfl) ?_
  obtain ⟨h_11, hf⟩ := gd_ck hf
  have h9 := Option.some.inj hf
  have h8 := congrArg Prod.fst h9
  have h7 := congrArg Prod.snd h9
  exact W.zret (v := x3) hx hb hr (gd_z h_11) (fun t ht hW => ⟨⟨x3, (), rfl, ⟨h8, h7⟩, by rw [ht]; exact hP, va_K.moved hW.alike hK, hD⟩, hS.F ht⟩) hS.2.2 dX0_isOfKind_90
set_option maxHeartbeats 4000000 in
set_option maxRecDepth 100000 in
theorem w_X0_isOfKind_18 {p : Program} {l : Launch} {e : Env} {s : State} {m : MethodId} {args : Array Value} {below : List Frame} {meth : Method} {c : Code} {A : Nat → Prop} {dC : Nat → ClassId} {dI : Nat → Nat → Nat} {cB cI cJ cZ : ClassId}  {out : Int32 × Unit} (C0 : Cx RX0 cX0_isOfKind (some .boolean) 5 wsX0_isOfKind p s m args meth c A) (hK : va_K (dC, dI) vwCl (tysG cB cI cJ cZ) s) (hax : ax A s)  : g_X0_isOfKind_18 p l e s m args below meth c A dC dI cB cI cJ cZ   out (f_X0_isOfKind_18  ) := by
  obtain ⟨hx, hb, hr, hml, hown, hts, hlocks, hA⟩ := id C0
  intro x0 x1 x2 y0 hf H locs hP hD hS ls hl
  replace hf : ((if ((x2 >>> ((2 : Int32) &&& 31)) &&& (1 : Int32)) = 0 then
  (f_X0_isOfKind_32 x0 x1 x2 y0 (0 : Int32))
  else
  (f_X0_isOfKind_32 x0 x1 x2 y0 (1 : Int32))) : Option (Int32 × Unit)) = some out := hf
  refine lv_istore_n (lv' := [(3, .int y0), (0, .int x0), (1, .int x1), (2, .int x2)]) hx hb dX0_isOfKind_18 rfl hl (by decide) rfl (fun ls hl => ?_)
  refine lv_iload_n hx hb dX0_isOfKind_19 rfl (lv_at hl 3 rfl) ?_
  refine lv_iconst (v := 2) hx hb dX0_isOfKind_20 (by decide) ?_
  refine lv_ishr hx hb dX0_isOfKind_21 ?_
  refine lv_iconst (v := 1) hx hb dX0_isOfKind_22 (by decide) ?_
  refine lv_iand hx hb dX0_isOfKind_23 ?_
  refine lv_if_eq (tgt := 31) hx hb dX0_isOfKind_24 (by decide) (fun c_12 => ?_) (fun c_12 => ?_)
  · replace hf := (if_pos c_12).symm.trans hf
    refine lv_iconst (v := 0) hx hb dX0_isOfKind_31 (by decide) ?_
    exact w_X0_isOfKind_32 C0 hK hax x0 x1 x2 y0 (0 : Int32) hf _ _ hP hD hS ls (lv_sub hl [1, 2, 3, 0] rfl)
  · replace hf := (if_neg c_12).symm.trans hf
    refine lv_iconst (v := 1) hx hb dX0_isOfKind_27 (by decide) ?_
    refine lv_goto (tgt := 32) hx hb dX0_isOfKind_28 (by decide) ?_
    exact w_X0_isOfKind_32 C0 hK hax x0 x1 x2 y0 (1 : Int32) hf _ _ hP hD hS ls (lv_sub hl [1, 2, 3, 0] rfl)
set_option maxHeartbeats 4000000 in
set_option maxRecDepth 100000 in
theorem w_X0_isOfKind_0 {p : Program} {l : Launch} {e : Env} {s : State} {m : MethodId} {args : Array Value} {below : List Frame} {meth : Method} {c : Code} {A : Nat → Prop} {dC : Nat → ClassId} {dI : Nat → Nat → Nat} {cB cI cJ cZ : ClassId}  {out : Int32 × Unit} (C0 : Cx RX0 cX0_isOfKind (some .boolean) 5 wsX0_isOfKind p s m args meth c A) (hK : va_K (dC, dI) vwCl (tysG cB cI cJ cZ) s) (hax : ax A s)  : g_X0_isOfKind_0 p l e s m args below meth c A dC dI cB cI cJ cZ   out (f_X0_isOfKind  ) := by
  obtain ⟨hx, hb, hr, hml, hown, hts, hlocks, hA⟩ := id C0
  intro x0 x1 x2 hf H locs hP hD hS ls hl
  replace hf : ((if (((x1 * (3 : Int32)) + (2 : Int32)) < 0 ∨ 18 ≤ Int32.toNatClampNeg ((x1 * (3 : Int32)) + (2 : Int32))) then none else
  if (tab_AXES (Int32.toNatClampNeg ((x1 * (3 : Int32)) + (2 : Int32)))) = (2 : Int32) then
  (f_X0_isOfKind_18 x0 x1 x2 (1 : Int32))
  else
  (f_X0_isOfKind_18 x0 x1 x2 (0 : Int32))) : Option (Int32 × Unit)) = some out := hf
  obtain ⟨t_AXES, hZ9, hT9⟩ := id hax
  refine va_gets hx hb hZ9 hS hown (hts (.fieldLink RX0 57 "LinkedCovers$Piece" "AXES" "[I") lk_X0_isOfKind_f57) (fun _ h9 => h9) dX0_isOfKind_0 ?_
  refine lv_iload_n hx hb dX0_isOfKind_3 rfl (lv_at hl 1 rfl) ?_
  refine lv_iconst (v := 3) hx hb dX0_isOfKind_4 (by decide) ?_
  refine lv_imul hx hb dX0_isOfKind_5 ?_
  refine lv_iconst (v := 2) hx hb dX0_isOfKind_6 (by decide) ?_
  refine lv_iadd hx hb dX0_isOfKind_7 ?_
  obtain ⟨h_13, hf⟩ := gd_ck hf
  refine va_ti (v := .int (tab_AXES (Int32.toNatClampNeg ((x1 * (3 : Int32)) + (2 : Int32))))) hx hb hT9 hS h_13 rfl dX0_isOfKind_8 ?_
  refine lv_iconst (v := 2) hx hb dX0_isOfKind_9 (by decide) ?_
  refine lv_icmp_ne (tgt := 17) hx hb dX0_isOfKind_10 (by decide) (fun c_14 => ?_) (fun c_14 => ?_)
  · replace hf := (if_neg c_14).symm.trans hf
    refine lv_iconst (v := 0) hx hb dX0_isOfKind_17 (by decide) ?_
    exact w_X0_isOfKind_18 C0 hK hax x0 x1 x2 (0 : Int32) hf _ _ hP hD hS ls (lv_sub hl [0, 1, 2] rfl)
  · replace hf := (if_pos c_14).symm.trans hf
    refine lv_iconst (v := 1) hx hb dX0_isOfKind_13 (by decide) ?_
    refine lv_goto (tgt := 18) hx hb dX0_isOfKind_14 (by decide) ?_
    exact w_X0_isOfKind_18 C0 hK hax x0 x1 x2 (1 : Int32) hf _ _ hP hD hS ls (lv_sub hl [0, 1, 2] rfl)
theorem nd_X0_isOfKind : yX0_isOfKind.cls ≠ "java/lang/invoke/MethodHandle" ∧ yX0_isOfKind.cls ≠ "java/lang/invoke/VarHandle" ∧ (parseMethodDescriptor yX0_isOfKind.desc).map (fun d => d.parameters.length) = some 3 := by decide +kernel
set_option maxHeartbeats 4000000 in
set_option maxRecDepth 100000 in
theorem c_X0_isOfKind (l : Launch) (dC : Nat → ClassId) (dI : Nat → Nat → Nat) (cB cI cJ cZ : ClassId) (sz : Nat)  (x0 : Int32) (x1 : Int32) (x2 : Int32) (out : Int32 × Unit) (hf : f_X0_isOfKind  x0 x1 x2 = some out) : Met l yX0_isOfKind wsX0_isOfKind rm_X0_isOfKind (va_Pc [.int x0, .int x1, .int x2] (fun U => U.heap.size = sz ∧ va_P (dC, dI) vwCl (ws_X0_isOfKind cB cI cJ cZ  ) U.heap ∧ va_K (dC, dI) vwCl (tysG cB cI cJ cZ) U ∧ va_D (fun _ => True) (ws_X0_isOfKind cB cI cJ cZ  ) ∧ ax (va_A (ws_X0_isOfKind cB cI cJ cZ  ) sz) U)) (qc_X0_isOfKind (va_A (ws_X0_isOfKind cB cI cJ cZ  ) sz) dC dI cB cI cJ cZ   out) 0 0 (va_A (ws_X0_isOfKind cB cI cJ cZ  ) sz) := by
  refine Met.ofW (cc := cX0_isOfKind) (maxL := 5) (ret := (some .boolean)) (by decide) rfl ?_
  intro p e s m args below meth c s₁ B hml hv
  obtain ⟨rfl, hsz, hP, hK, hD0, hax⟩ := hv
  subst hsz
  have hD := hD0.self (sz := s.heap.size)
  generalize hAe : va_A (ws_X0_isOfKind cB cI cJ cZ  ) s.heap.size = A at hD hax ⊢
  have hA : ∀ q : Nat, s.heap.size ≤ q → A q := fun q h => by rw [← hAe]; exact Or.inr h
  have hl := lv_entry ([.int x0, .int x1, .int x2]) (n := 5) (Nat.le_of_ble_eq_true rfl)
  rw [lg_entry_eq]
  generalize (lg_sl ([.int x0, .int x1, .int x2]) ++ List.replicate (5 - (lg_sl ([.int x0, .int x1, .int x2])).length) Slot.unset).toArray = ls at hl ⊢
  have hl : lv_has ls 5 [(0, .int x0), (1, .int x1), (2, .int x2)] := hl
  exact w_X0_isOfKind_0 ⟨B.exec, B.bytes, B.returns, hml, findClass_of_methodNamed B.named, atoms_spec (ws := wsX0_isOfKind) B.pre, B.notSynchronized, hA⟩ hK hax x0 x1 x2 hf _ _ hP hD va_S.rf ls (lv_sub hl [0, 1, 2] rfl)
-- X0.turnedCell(III)I: 49 instructions
abbrev ws_X0_turnedCell (cB cI cJ cZ : ClassId)  : va_W := []
abbrev rm_X0_turnedCell : Room := { frames := 1, cells := 0, slots := 0, locals := 21 }
theorem lk_X0_turnedCell_f57 : Cond.fieldLink RX0 57 "LinkedCovers$Piece" "AXES" "[I" ∈ wsX0_turnedCell := by decide +kernel
def f_X0_turnedCell_63  (k_8 : Int32 → Int32 → Int32 → Int32 → Int32 → Int32 → Option (Int32 × Unit)) (x0 : Int32) (x1 : Int32) (x2 : Int32) (x4 : Int32) (x5 : Int32) (y0 : Int32) (y1 : Int32) (y2 : Int32) : Option (Int32 × Unit) :=
  k_8 x0 x1 x2 (y2 + (y1 * y0)) (x4 * (3 : Int32)) (x5 + 1)
def f_X0_turnedCell_44  (k_8 : Int32 → Int32 → Int32 → Int32 → Int32 → Int32 → Option (Int32 × Unit)) (x0 : Int32) (x1 : Int32) (x2 : Int32) (x3 : Int32) (x4 : Int32) (x5 : Int32) (x6 : Int32) (y0 : Int32) : Option (Int32 × Unit) :=
  if y0 = 0 then
  (f_X0_turnedCell_63 k_8 x0 x1 x2 x4 x5 x6 x4 x3)
  else
  (f_X0_turnedCell_63 k_8 x0 x1 x2 x4 x5 ((2 : Int32) - x6) x4 x3)
def f_X0_turnedCell_8   : Nat → Int32 → Int32 → Int32 → Int32 → Int32 → Int32 → Option (Int32 × Unit)
  | 0 => fun _ _ _ _ _ _ => none
  | n + 1 => fun x0 x1 x2 x3 x4 x5 => if (3 : Int32) ≤ x5 then
  (some ((x3, ())))
  else
  (if (((x1 * (3 : Int32)) + x5) < 0 ∨ 18 ≤ Int32.toNatClampNeg ((x1 * (3 : Int32)) + x5)) then none else
  (f_X0_placeOn x0 (tab_AXES (Int32.toNatClampNeg ((x1 * (3 : Int32)) + x5)))).bind (fun o_4 =>
  if ((x2 >>> (x5 &&& 31)) &&& (1 : Int32)) = 0 then
  (f_X0_turnedCell_44 (f_X0_turnedCell_8 n) x0 x1 x2 x3 x4 x5 o_4.1 (0 : Int32))
  else
  (f_X0_turnedCell_44 (f_X0_turnedCell_8 n) x0 x1 x2 x3 x4 x5 o_4.1 (1 : Int32))))
def f_X0_turnedCell   (x0 : Int32) (x1 : Int32) (x2 : Int32) : Option (Int32 × Unit) :=
  f_X0_turnedCell_8 1000000 x0 x1 x2 (0 : Int32) (1 : Int32) (0 : Int32)
abbrev qc_X0_turnedCell (A : Nat → Prop) (dC : Nat → ClassId) (dI : Nat → Nat → Nat) (cB cI cJ cZ : ClassId)  (out : Int32 × Unit) : Array Value → State → Outcome → State → Prop := va_Qi (fun (r : Int32) (u : Unit) => r = out.1 ∧ u = out.2) (fun (u : Unit) (t : State) => va_P (dC, dI) vwCl (ws_X0_turnedCell cB cI cJ cZ  ) t.heap ∧ va_K (dC, dI) vwCl (tysG cB cI cJ cZ) t ∧ va_D A (ws_X0_turnedCell cB cI cJ cZ  )) A
abbrev g_X0_turnedCell_63 (p : Program) (l : Launch) (e : Env) (s : State) (m : MethodId) (args : Array Value) (below : List Frame) (meth : Method) (c : Code) (A : Nat → Prop) (dC : Nat → ClassId) (dI : Nat → Nat → Nat) (cB cI cJ cZ : ClassId)  (out : Int32 × Unit) (k : Int32 → Int32 → Int32 → Int32 → Int32 → Int32 → Int32 → Int32 → Option (Int32 × Unit)) : Prop := ∀ (x0 : Int32) (x1 : Int32) (x2 : Int32) (x4 : Int32) (x5 : Int32) (y0 : Int32) (y1 : Int32) (y2 : Int32), k x0 x1 x2 x4 x5 y0 y1 y2 = some out → ∀ (H : Heap) (locs : List Loc), va_P (dC, dI) vwCl (ws_X0_turnedCell cB cI cJ cZ  ) H → va_D A (ws_X0_turnedCell cB cI cJ cZ  ) → va_S A s.heap H locs → ∀ (ls : Array Slot), lv_has ls 8 [(0, .int x0), (1, .int x1), (2, .int x2), (4, .int x4), (5, .int x5)] → W p l e (headSpec wsX0_turnedCell rm_X0_turnedCell).room s m args below meth c H locs 0 0 (MQ below (qc_X0_turnedCell A dC dI cB cI cJ cZ   out) args s 0 0 A) (F0 m 63 ls [.int y0, .int y1, .int y2])
abbrev g_X0_turnedCell_44 (p : Program) (l : Launch) (e : Env) (s : State) (m : MethodId) (args : Array Value) (below : List Frame) (meth : Method) (c : Code) (A : Nat → Prop) (dC : Nat → ClassId) (dI : Nat → Nat → Nat) (cB cI cJ cZ : ClassId)  (out : Int32 × Unit) (k : Int32 → Int32 → Int32 → Int32 → Int32 → Int32 → Int32 → Int32 → Option (Int32 × Unit)) : Prop := ∀ (x0 : Int32) (x1 : Int32) (x2 : Int32) (x3 : Int32) (x4 : Int32) (x5 : Int32) (x6 : Int32) (y0 : Int32), k x0 x1 x2 x3 x4 x5 x6 y0 = some out → ∀ (H : Heap) (locs : List Loc), va_P (dC, dI) vwCl (ws_X0_turnedCell cB cI cJ cZ  ) H → va_D A (ws_X0_turnedCell cB cI cJ cZ  ) → va_S A s.heap H locs → ∀ (ls : Array Slot), lv_has ls 8 [(0, .int x0), (1, .int x1), (2, .int x2), (3, .int x3), (4, .int x4), (5, .int x5), (6, .int x6)] → W p l e (headSpec wsX0_turnedCell rm_X0_turnedCell).room s m args below meth c H locs 0 0 (MQ below (qc_X0_turnedCell A dC dI cB cI cJ cZ   out) args s 0 0 A) (F0 m 44 ls [.int y0])
abbrev g_X0_turnedCell_8 (p : Program) (l : Launch) (e : Env) (s : State) (m : MethodId) (args : Array Value) (below : List Frame) (meth : Method) (c : Code) (A : Nat → Prop) (dC : Nat → ClassId) (dI : Nat → Nat → Nat) (cB cI cJ cZ : ClassId)  (out : Int32 × Unit) (k : Int32 → Int32 → Int32 → Int32 → Int32 → Int32 → Option (Int32 × Unit)) : Prop := ∀ (x0 : Int32) (x1 : Int32) (x2 : Int32) (x3 : Int32) (x4 : Int32) (x5 : Int32), k x0 x1 x2 x3 x4 x5 = some out → ∀ (H : Heap) (locs : List Loc), va_P (dC, dI) vwCl (ws_X0_turnedCell cB cI cJ cZ  ) H → va_D A (ws_X0_turnedCell cB cI cJ cZ  ) → va_S A s.heap H locs → ∀ (ls : Array Slot), lv_has ls 8 [(0, .int x0), (1, .int x1), (2, .int x2), (3, .int x3), (4, .int x4), (5, .int x5)] → W p l e (headSpec wsX0_turnedCell rm_X0_turnedCell).room s m args below meth c H locs 0 0 (MQ below (qc_X0_turnedCell A dC dI cB cI cJ cZ   out) args s 0 0 A) (F0 m 8 ls [])
abbrev g_X0_turnedCell_0 (p : Program) (l : Launch) (e : Env) (s : State) (m : MethodId) (args : Array Value) (below : List Frame) (meth : Method) (c : Code) (A : Nat → Prop) (dC : Nat → ClassId) (dI : Nat → Nat → Nat) (cB cI cJ cZ : ClassId)  (out : Int32 × Unit) (k : Int32 → Int32 → Int32 → Option (Int32 × Unit)) : Prop := ∀ (x0 : Int32) (x1 : Int32) (x2 : Int32), k x0 x1 x2 = some out → ∀ (H : Heap) (locs : List Loc), va_P (dC, dI) vwCl (ws_X0_turnedCell cB cI cJ cZ  ) H → va_D A (ws_X0_turnedCell cB cI cJ cZ  ) → va_S A s.heap H locs → ∀ (ls : Array Slot), lv_has ls 8 [(0, .int x0), (1, .int x1), (2, .int x2)] → W p l e (headSpec wsX0_turnedCell rm_X0_turnedCell).room s m args below meth c H locs 0 0 (MQ below (qc_X0_turnedCell A dC dI cB cI cJ cZ   out) args s 0 0 A) (F0 m 0 ls [])
set_option maxHeartbeats 4000000 in
set_option maxRecDepth 100000 in
theorem w_X0_turnedCell_63 {p : Program} {l : Launch} {e : Env} {s : State} {m : MethodId} {args : Array Value} {below : List Frame} {meth : Method} {c : Code} {A : Nat → Prop} {dC : Nat → ClassId} {dI : Nat → Nat → Nat} {cB cI cJ cZ : ClassId}  {out : Int32 × Unit} (C0 : Cx RX0 cX0_turnedCell (some .int) 8 wsX0_turnedCell p s m args meth c A) (hK : va_K (dC, dI) vwCl (tysG cB cI cJ cZ) s) (hax : ax A s) {k_8 : Int32 → Int32 → Int32 → Int32 → Int32 → Int32 → Option (Int32 × Unit)} (hk_8 : g_X0_turnedCell_8 p l e s m args below meth c A dC dI cB cI cJ cZ   out k_8) : g_X0_turnedCell_63 p l e s m args below meth c A dC dI cB cI cJ cZ   out (f_X0_turnedCell_63  k_8) := by
  obtain ⟨hx, hb, hr, hml, hown, hts, hlocks, hA⟩ := id C0
  intro x0 x1 x2 x4 x5 y0 y1 y2 hf H locs hP hD hS ls hl
  replace hf : ((k_8 x0 x1 x2 (y2 + (y1 * y0)) (x4 * (3 : Int32)) (x5 + 1)) : Option (Int32 × Unit)) = some out := hf
  refine lv_imul hx hb dX0_turnedCell_63 ?_
  refine lv_iadd hx hb dX0_turnedCell_64 ?_
  refine lv_istore_n (lv' := [(3, .int (y2 + (y1 * y0))), (0, .int x0), (1, .int x1), (2, .int x2), (4, .int x4), (5, .int x5)]) hx hb dX0_turnedCell_65 rfl hl (by decide) rfl (fun ls hl => ?_)
  refine lv_iload hx hb dX0_turnedCell_66 (lv_at hl 4 rfl) ?_
  refine lv_iconst (v := 3) hx hb dX0_turnedCell_68 (by decide) ?_
  refine lv_imul hx hb dX0_turnedCell_69 ?_
  refine lv_istore (lv' := [(4, .int (x4 * (3 : Int32))), (3, .int (y2 + (y1 * y0))), (0, .int x0), (1, .int x1), (2, .int x2), (5, .int x5)]) hx hb dX0_turnedCell_70 hl (by decide) rfl (fun ls hl => ?_)
  refine lv_iinc (v := (x5 + 1)) (lv' := [(5, .int (x5 + 1)), (4, .int (x4 * (3 : Int32))), (3, .int (y2 + (y1 * y0))), (0, .int x0), (1, .int x1), (2, .int x2)]) hx hb dX0_turnedCell_72 hl (k := 5) rfl rfl (by decide) rfl (fun ls hl => ?_)
  refine lv_goto (tgt := 8) hx hb dX0_turnedCell_75 (by decide) ?_
  exact hk_8 x0 x1 x2 (y2 + (y1 * y0)) (x4 * (3 : Int32)) (x5 + 1) hf _ _ hP hD hS ls (lv_sub hl [3, 4, 5, 2, 1, 0] rfl)
set_option maxHeartbeats 4000000 in
set_option maxRecDepth 100000 in
theorem w_X0_turnedCell_44 {p : Program} {l : Launch} {e : Env} {s : State} {m : MethodId} {args : Array Value} {below : List Frame} {meth : Method} {c : Code} {A : Nat → Prop} {dC : Nat → ClassId} {dI : Nat → Nat → Nat} {cB cI cJ cZ : ClassId}  {out : Int32 × Unit} (C0 : Cx RX0 cX0_turnedCell (some .int) 8 wsX0_turnedCell p s m args meth c A) (hK : va_K (dC, dI) vwCl (tysG cB cI cJ cZ) s) (hax : ax A s) {k_8 : Int32 → Int32 → Int32 → Int32 → Int32 → Int32 → Option (Int32 × Unit)} (hk_8 : g_X0_turnedCell_8 p l e s m args below meth c A dC dI cB cI cJ cZ   out k_8) : g_X0_turnedCell_44 p l e s m args below meth c A dC dI cB cI cJ cZ   out (f_X0_turnedCell_44  k_8) := by
  obtain ⟨hx, hb, hr, hml, hown, hts, hlocks, hA⟩ := id C0
  intro x0 x1 x2 x3 x4 x5 x6 y0 hf H locs hP hD hS ls hl
  replace hf : ((if y0 = 0 then
  (f_X0_turnedCell_63 k_8 x0 x1 x2 x4 x5 x6 x4 x3)
  else
  (f_X0_turnedCell_63 k_8 x0 x1 x2 x4 x5 ((2 : Int32) - x6) x4 x3)) : Option (Int32 × Unit)) = some out := hf
  refine lv_istore (lv' := [(7, .int y0), (0, .int x0), (1, .int x1), (2, .int x2), (3, .int x3), (4, .int x4), (5, .int x5), (6, .int x6)]) hx hb dX0_turnedCell_44 hl (by decide) rfl (fun ls hl => ?_)
  refine lv_iload_n hx hb dX0_turnedCell_46 rfl (lv_at hl 4 rfl) ?_
  refine lv_iload hx hb dX0_turnedCell_47 (lv_at hl 5 rfl) ?_
  refine lv_iload hx hb dX0_turnedCell_49 (lv_at hl 0 rfl) ?_
  refine lv_if_eq (tgt := 61) hx hb dX0_turnedCell_51 (by decide) (fun c_1 => ?_) (fun c_1 => ?_)
  · replace hf := (if_pos c_1).symm.trans hf
    refine lv_iload hx hb dX0_turnedCell_61 (lv_at hl 7 rfl) ?_
    exact w_X0_turnedCell_63 C0 hK hax hk_8 x0 x1 x2 x4 x5 x6 x4 x3 hf _ _ hP hD hS ls (lv_sub hl [1, 2, 3, 5, 6] rfl)
  · replace hf := (if_neg c_1).symm.trans hf
    refine lv_iconst (v := 2) hx hb dX0_turnedCell_54 (by decide) ?_
    refine lv_iload hx hb dX0_turnedCell_55 (lv_at hl 7 rfl) ?_
    refine lv_isub hx hb dX0_turnedCell_57 ?_
    refine lv_goto (tgt := 63) hx hb dX0_turnedCell_58 (by decide) ?_
    exact w_X0_turnedCell_63 C0 hK hax hk_8 x0 x1 x2 x4 x5 ((2 : Int32) - x6) x4 x3 hf _ _ hP hD hS ls (lv_sub hl [1, 2, 3, 5, 6] rfl)
set_option maxHeartbeats 4000000 in
set_option maxRecDepth 100000 in
theorem w_X0_turnedCell_8 {p : Program} {l : Launch} {e : Env} {s : State} {m : MethodId} {args : Array Value} {below : List Frame} {meth : Method} {c : Code} {A : Nat → Prop} {dC : Nat → ClassId} {dI : Nat → Nat → Nat} {cB cI cJ cZ : ClassId}  {out : Int32 × Unit} (C0 : Cx RX0 cX0_turnedCell (some .int) 8 wsX0_turnedCell p s m args meth c A) (hK : va_K (dC, dI) vwCl (tysG cB cI cJ cZ) s) (hax : ax A s)  : ∀ n : Nat, g_X0_turnedCell_8 p l e s m args below meth c A dC dI cB cI cJ cZ   out (f_X0_turnedCell_8   n) := by
  obtain ⟨hx, hb, hr, hml, hown, hts, hlocks, hA⟩ := id C0
  intro n
  induction n with
  | zero =>
    intro x0 x1 x2 x3 x4 x5 hf H locs hP hD hS ls hl
    exact nomatch (show (none : Option (Int32 × Unit)) = some out from hf)
  | succ n ih =>
    intro x0 x1 x2 x3 x4 x5 hf H locs hP hD hS ls hl
    replace hf : ((if (3 : Int32) ≤ x5 then
  (some ((x3, ())))
  else
  (if (((x1 * (3 : Int32)) + x5) < 0 ∨ 18 ≤ Int32.toNatClampNeg ((x1 * (3 : Int32)) + x5)) then none else
  (f_X0_placeOn x0 (tab_AXES (Int32.toNatClampNeg ((x1 * (3 : Int32)) + x5)))).bind (fun o_4 =>
  if ((x2 >>> (x5 &&& 31)) &&& (1 : Int32)) = 0 then
  (f_X0_turnedCell_44 (f_X0_turnedCell_8 n) x0 x1 x2 x3 x4 x5 o_4.1 (0 : Int32))
  else
  (f_X0_turnedCell_44 (f_X0_turnedCell_8 n) x0 x1 x2 x3 x4 x5 o_4.1 (1 : Int32))))) : Option (Int32 × Unit)) = some out := hf
    refine lv_iload hx hb dX0_turnedCell_8 (lv_at hl 5 rfl) ?_
    refine lv_iconst (v := 3) hx hb dX0_turnedCell_10 (by decide) ?_
    refine lv_icmp_ge (tgt := 78) hx hb dX0_turnedCell_11 (by decide) (fun c_2 => ?_) (fun c_2 => ?_)
    · replace hf := (if_pos c_2).symm.trans hf
      refine lv_iload_n hx hb dX0_turnedCell_78 rfl (lv_at hl 3 rfl) ?_
      have h9 := Option.some.inj hf
      have h8 := congrArg Prod.fst h9
      have h7 := congrArg Prod.snd h9
      exact W.iret (v := x3) hx hb hr (fun t ht hW => ⟨⟨x3, (), rfl, ⟨h8, h7⟩, by rw [ht]; exact hP, va_K.moved hW.alike hK, hD⟩, hS.F ht⟩) hS.2.2 dX0_turnedCell_79
    · replace hf := (if_neg c_2).symm.trans hf
      refine lv_iload_n hx hb dX0_turnedCell_14 rfl (lv_at hl 0 rfl) ?_
      obtain ⟨t_AXES, hZ9, hT9⟩ := id hax
      refine va_gets hx hb hZ9 hS hown (hts (.fieldLink RX0 57 "LinkedCovers$Piece" "AXES" "[I") lk_X0_turnedCell_f57) (fun _ h9 => h9) dX0_turnedCell_15 ?_
      refine lv_iload_n hx hb dX0_turnedCell_18 rfl (lv_at hl 1 rfl) ?_
      refine lv_iconst (v := 3) hx hb dX0_turnedCell_19 (by decide) ?_
      refine lv_imul hx hb dX0_turnedCell_20 ?_
      refine lv_iload hx hb dX0_turnedCell_21 (lv_at hl 5 rfl) ?_
      refine lv_iadd hx hb dX0_turnedCell_23 ?_
      obtain ⟨h_3, hf⟩ := gd_ck hf
      refine va_ti (v := .int (tab_AXES (Int32.toNatClampNeg ((x1 * (3 : Int32)) + x5)))) hx hb hT9 hS h_3 rfl dX0_turnedCell_24 ?_
      obtain ⟨o_4, ho_4, hf⟩ := gd_bd hf
      have hPc := hP.sub (ws' := ws_X0_placeOn cB cI cJ cZ  ) [] rfl
      have hDc := hD.sub (ws' := ws_X0_placeOn cB cI cJ cZ  ) [] (by decide) rfl
      have hFc := va_free (wc := ws_X0_placeOn cB cI cJ cZ  ) hD hS hA [] rfl
      refine va_calli (va_runS (As := [.int x0, .int (tab_AXES (Int32.toNatClampNeg ((x1 * (3 : Int32)) + x5)))]) (rest := []) ⟨hx, hb, hml, hown, hts⟩ (c_X0_placeOn l dC dI cB cI cJ cZ H.size x0 (tab_AXES (Int32.toNatClampNeg ((x1 * (3 : Int32)) + x5))) o_4 ho_4) (va_cwS 2 hts gX0_turnedCell_X0_placeOn rfl rfl rfl nd_X0_placeOn ⟨Nat.le_of_ble_eq_true rfl, Nat.le_of_ble_eq_true rfl⟩) ⟨fun a U g mk q => by obtain ⟨q0, q1, qP, qK, qD⟩ := q; exact ⟨q0, q1, qP, va_K.moved (u := U) (U := U.calling g mk a) (Vm.Alike.refl U.vm) qK, qD⟩, fun U hU hW => ⟨rfl, by rw [hU], by rw [hU]; exact hPc, va_K.moved hW.alike hK, hDc.weaken (fun _ _ _ _ => trivial)⟩⟩ rfl rfl hl.1 rfl (lv_room (Nat.le_of_ble_eq_true rfl)) dX0_turnedCell_25 ⟨Nat.le_of_ble_eq_true rfl, Nat.le_of_ble_eq_true rfl⟩) hS (fun q _ h => hFc q h) hFc (fun r_4 u_4 t H1 locs ht hvm hw hB hz1 hk1 hS => ?_)
      obtain ⟨rfl, rfl⟩ := hw
      obtain ⟨hP1, hK1, hD1⟩ := hB
      rw [ht] at hP1
      obtain ⟨hP, hD⟩ := va_join (wr := []) (w1 := ws_X0_placeOn cB cI cJ cZ  ) hP hD [] [] rfl rfl (by decide) (by decide) hk1 hFc hP1 hD1
      generalize H1 = H at hP hS ⊢
      have hP : va_P (dC, dI) vwCl (ws_X0_turnedCell cB cI cJ cZ  ) H := hP.sub [] rfl
      have hD : va_D A (ws_X0_turnedCell cB cI cJ cZ  ) := hD.sub [] (by decide) rfl
      refine lv_istore (lv' := [(6, .int o_4.1), (0, .int x0), (1, .int x1), (2, .int x2), (3, .int x3), (4, .int x4), (5, .int x5)]) hx hb dX0_turnedCell_28 hl (by decide) rfl (fun ls hl => ?_)
      refine lv_iload_n hx hb dX0_turnedCell_30 rfl (lv_at hl 3 rfl) ?_
      refine lv_iload hx hb dX0_turnedCell_31 (lv_at hl 6 rfl) ?_
      refine lv_ishr hx hb dX0_turnedCell_33 ?_
      refine lv_iconst (v := 1) hx hb dX0_turnedCell_34 (by decide) ?_
      refine lv_iand hx hb dX0_turnedCell_35 ?_
      refine lv_if_eq (tgt := 43) hx hb dX0_turnedCell_36 (by decide) (fun c_5 => ?_) (fun c_5 => ?_)
      · replace hf := (if_pos c_5).symm.trans hf
        refine lv_iconst (v := 0) hx hb dX0_turnedCell_43 (by decide) ?_
        exact w_X0_turnedCell_44 C0 hK hax ih x0 x1 x2 x3 x4 x5 o_4.1 (0 : Int32) hf _ _ hP hD hS ls (lv_sub hl [1, 2, 3, 4, 5, 6, 0] rfl)
      · replace hf := (if_neg c_5).symm.trans hf
        refine lv_iconst (v := 1) hx hb dX0_turnedCell_39 (by decide) ?_
        refine lv_goto (tgt := 44) hx hb dX0_turnedCell_40 (by decide) ?_
        exact w_X0_turnedCell_44 C0 hK hax ih x0 x1 x2 x3 x4 x5 o_4.1 (1 : Int32) hf _ _ hP hD hS ls (lv_sub hl [1, 2, 3, 4, 5, 6, 0] rfl)
set_option maxHeartbeats 4000000 in
set_option maxRecDepth 100000 in
theorem w_X0_turnedCell_0 {p : Program} {l : Launch} {e : Env} {s : State} {m : MethodId} {args : Array Value} {below : List Frame} {meth : Method} {c : Code} {A : Nat → Prop} {dC : Nat → ClassId} {dI : Nat → Nat → Nat} {cB cI cJ cZ : ClassId}  {out : Int32 × Unit} (C0 : Cx RX0 cX0_turnedCell (some .int) 8 wsX0_turnedCell p s m args meth c A) (hK : va_K (dC, dI) vwCl (tysG cB cI cJ cZ) s) (hax : ax A s)  : g_X0_turnedCell_0 p l e s m args below meth c A dC dI cB cI cJ cZ   out (f_X0_turnedCell  ) := by
  obtain ⟨hx, hb, hr, hml, hown, hts, hlocks, hA⟩ := id C0
  intro x0 x1 x2 hf H locs hP hD hS ls hl
  replace hf : ((f_X0_turnedCell_8 1000000 x0 x1 x2 (0 : Int32) (1 : Int32) (0 : Int32)) : Option (Int32 × Unit)) = some out := hf
  refine lv_iconst (v := 0) hx hb dX0_turnedCell_0 (by decide) ?_
  refine lv_istore_n (lv' := [(3, .int (0 : Int32)), (0, .int x0), (1, .int x1), (2, .int x2)]) hx hb dX0_turnedCell_1 rfl hl (by decide) rfl (fun ls hl => ?_)
  refine lv_iconst (v := 1) hx hb dX0_turnedCell_2 (by decide) ?_
  refine lv_istore (lv' := [(4, .int (1 : Int32)), (3, .int (0 : Int32)), (0, .int x0), (1, .int x1), (2, .int x2)]) hx hb dX0_turnedCell_3 hl (by decide) rfl (fun ls hl => ?_)
  refine lv_iconst (v := 0) hx hb dX0_turnedCell_5 (by decide) ?_
  refine lv_istore (lv' := [(5, .int (0 : Int32)), (4, .int (1 : Int32)), (3, .int (0 : Int32)), (0, .int x0), (1, .int x1), (2, .int x2)]) hx hb dX0_turnedCell_6 hl (by decide) rfl (fun ls hl => ?_)
  exact w_X0_turnedCell_8 C0 hK hax 1000000 x0 x1 x2 (0 : Int32) (1 : Int32) (0 : Int32) hf _ _ hP hD hS ls (lv_sub hl [3, 4, 5, 2, 1, 0] rfl)
theorem nd_X0_turnedCell : yX0_turnedCell.cls ≠ "java/lang/invoke/MethodHandle" ∧ yX0_turnedCell.cls ≠ "java/lang/invoke/VarHandle" ∧ (parseMethodDescriptor yX0_turnedCell.desc).map (fun d => d.parameters.length) = some 3 := by decide +kernel
set_option maxHeartbeats 4000000 in
set_option maxRecDepth 100000 in
theorem c_X0_turnedCell (l : Launch) (dC : Nat → ClassId) (dI : Nat → Nat → Nat) (cB cI cJ cZ : ClassId) (sz : Nat)  (x0 : Int32) (x1 : Int32) (x2 : Int32) (out : Int32 × Unit) (hf : f_X0_turnedCell  x0 x1 x2 = some out) : Met l yX0_turnedCell wsX0_turnedCell rm_X0_turnedCell (va_Pc [.int x0, .int x1, .int x2] (fun U => U.heap.size = sz ∧ va_P (dC, dI) vwCl (ws_X0_turnedCell cB cI cJ cZ  ) U.heap ∧ va_K (dC, dI) vwCl (tysG cB cI cJ cZ) U ∧ va_D (fun _ => True) (ws_X0_turnedCell cB cI cJ cZ  ) ∧ ax (va_A (ws_X0_turnedCell cB cI cJ cZ  ) sz) U)) (qc_X0_turnedCell (va_A (ws_X0_turnedCell cB cI cJ cZ  ) sz) dC dI cB cI cJ cZ   out) 0 0 (va_A (ws_X0_turnedCell cB cI cJ cZ  ) sz) := by
  refine Met.ofW (cc := cX0_turnedCell) (maxL := 8) (ret := (some .int)) (by decide) rfl ?_
  intro p e s m args below meth c s₁ B hml hv
  obtain ⟨rfl, hsz, hP, hK, hD0, hax⟩ := hv
  subst hsz
  have hD := hD0.self (sz := s.heap.size)
  generalize hAe : va_A (ws_X0_turnedCell cB cI cJ cZ  ) s.heap.size = A at hD hax ⊢
  have hA : ∀ q : Nat, s.heap.size ≤ q → A q := fun q h => by rw [← hAe]; exact Or.inr h
  have hl := lv_entry ([.int x0, .int x1, .int x2]) (n := 8) (Nat.le_of_ble_eq_true rfl)
  rw [lg_entry_eq]
  generalize (lg_sl ([.int x0, .int x1, .int x2]) ++ List.replicate (8 - (lg_sl ([.int x0, .int x1, .int x2])).length) Slot.unset).toArray = ls at hl ⊢
  have hl : lv_has ls 8 [(0, .int x0), (1, .int x1), (2, .int x2)] := hl
  exact w_X0_turnedCell_0 ⟨B.exec, B.bytes, B.returns, hml, findClass_of_methodNamed B.named, atoms_spec (ws := wsX0_turnedCell) B.pre, B.notSynchronized, hA⟩ hK hax x0 x1 x2 hf _ _ hP hD va_S.rf ls (lv_sub hl [0, 1, 2] rfl)
-- X0.turned(II)I: 27 instructions
theorem in_X0_turned_X0 : ∀ w ∈ wsX00, w ∈ wsX0_turned := by decide +kernel
abbrev ws_X0_turned (cB cI cJ cZ : ClassId) (a_this a_sets : Nat) (v_cubes : Int32) (v_width : Int32) (v_height : Int32) (v_depth : Int32) (v_setCount : Int32) (v_roomIsShort : Int32) : va_W := [(a_this, .inr (1, [.ref a_sets, .int v_cubes, .int v_width, .int v_height, .int v_depth, .int v_setCount, .int v_roomIsShort]))]
abbrev rm_X0_turned : Room := { frames := 2, cells := 0, slots := 0, locals := 48 }
theorem lk_X0_turned_f15 : Cond.fieldLink RX0 15 "LinkedCovers$Piece" "cubes" "I" ∈ wsX0_turned := by decide +kernel
def f_X0_turned_36 (v_cubes : Int32) (k_5 : Int32 → Int32 → Int32 → Int32 → Option (Int32 × Unit)) (x1 : Int32) (x2 : Int32) (x3 : Int32) (x4 : Int32) : Option (Int32 × Unit) :=
  k_5 x1 x2 x3 (x4 + 1)
def f_X0_turned_5 (v_cubes : Int32)  : Nat → Int32 → Int32 → Int32 → Int32 → Option (Int32 × Unit)
  | 0 => fun _ _ _ _ => none
  | n + 1 => fun x1 x2 x3 x4 => if (27 : Int32) ≤ x4 then
  (some ((x3, ())))
  else
  (if ((v_cubes >>> (x4 &&& 31)) &&& (1 : Int32)) = 0 then
  (f_X0_turned_36 v_cubes (f_X0_turned_5 v_cubes n) x1 x2 x3 x4)
  else
  ((f_X0_turnedCell x4 x1 x2).bind (fun o_3 =>
  f_X0_turned_36 v_cubes (f_X0_turned_5 v_cubes n) x1 x2 (x3 ||| ((1 : Int32) <<< (o_3.1 &&& 31))) x4)))
def f_X0_turned (v_cubes : Int32)  (x1 : Int32) (x2 : Int32) : Option (Int32 × Unit) :=
  f_X0_turned_5 v_cubes 1000000 x1 x2 (0 : Int32) (0 : Int32)
abbrev qc_X0_turned (A : Nat → Prop) (dC : Nat → ClassId) (dI : Nat → Nat → Nat) (cB cI cJ cZ : ClassId) (a_this a_sets : Nat) (v_cubes : Int32) (v_width : Int32) (v_height : Int32) (v_depth : Int32) (v_setCount : Int32) (v_roomIsShort : Int32) (out : Int32 × Unit) : Array Value → State → Outcome → State → Prop := va_Qi (fun (r : Int32) (u : Unit) => r = out.1 ∧ u = out.2) (fun (u : Unit) (t : State) => va_P (dC, dI) vwCl (ws_X0_turned cB cI cJ cZ a_this a_sets v_cubes v_width v_height v_depth v_setCount v_roomIsShort) t.heap ∧ va_K (dC, dI) vwCl (tysG cB cI cJ cZ) t ∧ va_D A (ws_X0_turned cB cI cJ cZ a_this a_sets v_cubes v_width v_height v_depth v_setCount v_roomIsShort)) A
abbrev g_X0_turned_36 (p : Program) (l : Launch) (e : Env) (s : State) (m : MethodId) (args : Array Value) (below : List Frame) (meth : Method) (c : Code) (A : Nat → Prop) (dC : Nat → ClassId) (dI : Nat → Nat → Nat) (cB cI cJ cZ : ClassId) (a_this a_sets : Nat) (v_cubes : Int32) (v_width : Int32) (v_height : Int32) (v_depth : Int32) (v_setCount : Int32) (v_roomIsShort : Int32) (out : Int32 × Unit) (k : Int32 → Int32 → Int32 → Int32 → Option (Int32 × Unit)) : Prop := ∀ (x1 : Int32) (x2 : Int32) (x3 : Int32) (x4 : Int32), k x1 x2 x3 x4 = some out → ∀ (H : Heap) (locs : List Loc), va_P (dC, dI) vwCl (ws_X0_turned cB cI cJ cZ a_this a_sets v_cubes v_width v_height v_depth v_setCount v_roomIsShort) H → va_D A (ws_X0_turned cB cI cJ cZ a_this a_sets v_cubes v_width v_height v_depth v_setCount v_roomIsShort) → va_S A s.heap H locs → ∀ (ls : Array Slot), lv_has ls 5 [(0, .ref a_this), (1, .int x1), (2, .int x2), (3, .int x3), (4, .int x4)] → W p l e (headSpec wsX0_turned rm_X0_turned).room s m args below meth c H locs 0 0 (MQ below (qc_X0_turned A dC dI cB cI cJ cZ a_this a_sets v_cubes v_width v_height v_depth v_setCount v_roomIsShort out) args s 0 0 A) (F0 m 36 ls [])
abbrev g_X0_turned_5 (p : Program) (l : Launch) (e : Env) (s : State) (m : MethodId) (args : Array Value) (below : List Frame) (meth : Method) (c : Code) (A : Nat → Prop) (dC : Nat → ClassId) (dI : Nat → Nat → Nat) (cB cI cJ cZ : ClassId) (a_this a_sets : Nat) (v_cubes : Int32) (v_width : Int32) (v_height : Int32) (v_depth : Int32) (v_setCount : Int32) (v_roomIsShort : Int32) (out : Int32 × Unit) (k : Int32 → Int32 → Int32 → Int32 → Option (Int32 × Unit)) : Prop := ∀ (x1 : Int32) (x2 : Int32) (x3 : Int32) (x4 : Int32), k x1 x2 x3 x4 = some out → ∀ (H : Heap) (locs : List Loc), va_P (dC, dI) vwCl (ws_X0_turned cB cI cJ cZ a_this a_sets v_cubes v_width v_height v_depth v_setCount v_roomIsShort) H → va_D A (ws_X0_turned cB cI cJ cZ a_this a_sets v_cubes v_width v_height v_depth v_setCount v_roomIsShort) → va_S A s.heap H locs → ∀ (ls : Array Slot), lv_has ls 5 [(0, .ref a_this), (1, .int x1), (2, .int x2), (3, .int x3), (4, .int x4)] → W p l e (headSpec wsX0_turned rm_X0_turned).room s m args below meth c H locs 0 0 (MQ below (qc_X0_turned A dC dI cB cI cJ cZ a_this a_sets v_cubes v_width v_height v_depth v_setCount v_roomIsShort out) args s 0 0 A) (F0 m 5 ls [])
abbrev g_X0_turned_0 (p : Program) (l : Launch) (e : Env) (s : State) (m : MethodId) (args : Array Value) (below : List Frame) (meth : Method) (c : Code) (A : Nat → Prop) (dC : Nat → ClassId) (dI : Nat → Nat → Nat) (cB cI cJ cZ : ClassId) (a_this a_sets : Nat) (v_cubes : Int32) (v_width : Int32) (v_height : Int32) (v_depth : Int32) (v_setCount : Int32) (v_roomIsShort : Int32) (out : Int32 × Unit) (k : Int32 → Int32 → Option (Int32 × Unit)) : Prop := ∀ (x1 : Int32) (x2 : Int32), k x1 x2 = some out → ∀ (H : Heap) (locs : List Loc), va_P (dC, dI) vwCl (ws_X0_turned cB cI cJ cZ a_this a_sets v_cubes v_width v_height v_depth v_setCount v_roomIsShort) H → va_D A (ws_X0_turned cB cI cJ cZ a_this a_sets v_cubes v_width v_height v_depth v_setCount v_roomIsShort) → va_S A s.heap H locs → ∀ (ls : Array Slot), lv_has ls 5 [(0, .ref a_this), (1, .int x1), (2, .int x2)] → W p l e (headSpec wsX0_turned rm_X0_turned).room s m args below meth c H locs 0 0 (MQ below (qc_X0_turned A dC dI cB cI cJ cZ a_this a_sets v_cubes v_width v_height v_depth v_setCount v_roomIsShort out) args s 0 0 A) (F0 m 0 ls [])
set_option maxHeartbeats 4000000 in
set_option maxRecDepth 100000 in
theorem w_X0_turned_36 {p : Program} {l : Launch} {e : Env} {s : State} {m : MethodId} {args : Array Value} {below : List Frame} {meth : Method} {c : Code} {A : Nat → Prop} {dC : Nat → ClassId} {dI : Nat → Nat → Nat} {cB cI cJ cZ : ClassId} {a_this a_sets : Nat} {v_cubes : Int32} {v_width : Int32} {v_height : Int32} {v_depth : Int32} {v_setCount : Int32} {v_roomIsShort : Int32} {out : Int32 × Unit} (C0 : Cx RX0 cX0_turned (some .int) 5 wsX0_turned p s m args meth c A) (hK : va_K (dC, dI) vwCl (tysG cB cI cJ cZ) s) (hax : ax A s) {k_5 : Int32 → Int32 → Int32 → Int32 → Option (Int32 × Unit)} (hk_5 : g_X0_turned_5 p l e s m args below meth c A dC dI cB cI cJ cZ a_this a_sets v_cubes v_width v_height v_depth v_setCount v_roomIsShort out k_5) : g_X0_turned_36 p l e s m args below meth c A dC dI cB cI cJ cZ a_this a_sets v_cubes v_width v_height v_depth v_setCount v_roomIsShort out (f_X0_turned_36 v_cubes k_5) := by
  obtain ⟨hx, hb, hr, hml, hown, hts, hlocks, hA⟩ := id C0
  intro x1 x2 x3 x4 hf H locs hP hD hS ls hl
  replace hf : ((k_5 x1 x2 x3 (x4 + 1)) : Option (Int32 × Unit)) = some out := hf
  refine lv_iinc (v := (x4 + 1)) (lv' := [(4, .int (x4 + 1)), (0, .ref a_this), (1, .int x1), (2, .int x2), (3, .int x3)]) hx hb dX0_turned_36 hl (k := 4) rfl rfl (by decide) rfl (fun ls hl => ?_)
  refine lv_goto (tgt := 5) hx hb dX0_turned_39 (by decide) ?_
  exact hk_5 x1 x2 x3 (x4 + 1) hf _ _ hP hD hS ls (lv_sub hl [1, 2, 3, 4, 0] rfl)
set_option maxHeartbeats 4000000 in
set_option maxRecDepth 100000 in
theorem w_X0_turned_5 {p : Program} {l : Launch} {e : Env} {s : State} {m : MethodId} {args : Array Value} {below : List Frame} {meth : Method} {c : Code} {A : Nat → Prop} {dC : Nat → ClassId} {dI : Nat → Nat → Nat} {cB cI cJ cZ : ClassId} {a_this a_sets : Nat} {v_cubes : Int32} {v_width : Int32} {v_height : Int32} {v_depth : Int32} {v_setCount : Int32} {v_roomIsShort : Int32} {out : Int32 × Unit} (C0 : Cx RX0 cX0_turned (some .int) 5 wsX0_turned p s m args meth c A) (hK : va_K (dC, dI) vwCl (tysG cB cI cJ cZ) s) (hax : ax A s)  : ∀ n : Nat, g_X0_turned_5 p l e s m args below meth c A dC dI cB cI cJ cZ a_this a_sets v_cubes v_width v_height v_depth v_setCount v_roomIsShort out (f_X0_turned_5 v_cubes  n) := by
  obtain ⟨hx, hb, hr, hml, hown, hts, hlocks, hA⟩ := id C0
  intro n
  induction n with
  | zero =>
    intro x1 x2 x3 x4 hf H locs hP hD hS ls hl
    exact nomatch (show (none : Option (Int32 × Unit)) = some out from hf)
  | succ n ih =>
    intro x1 x2 x3 x4 hf H locs hP hD hS ls hl
    replace hf : ((if (27 : Int32) ≤ x4 then
  (some ((x3, ())))
  else
  (if ((v_cubes >>> (x4 &&& 31)) &&& (1 : Int32)) = 0 then
  (f_X0_turned_36 v_cubes (f_X0_turned_5 v_cubes n) x1 x2 x3 x4)
  else
  ((f_X0_turnedCell x4 x1 x2).bind (fun o_3 =>
  f_X0_turned_36 v_cubes (f_X0_turned_5 v_cubes n) x1 x2 (x3 ||| ((1 : Int32) <<< (o_3.1 &&& 31))) x4)))) : Option (Int32 × Unit)) = some out := hf
    refine lv_iload hx hb dX0_turned_5 (lv_at hl 4 rfl) ?_
    refine lv_bipush (v := 27) hx hb dX0_turned_7 (by decide) ?_
    refine lv_icmp_ge (tgt := 42) hx hb dX0_turned_9 (by decide) (fun c_1 => ?_) (fun c_1 => ?_)
    · replace hf := (if_pos c_1).symm.trans hf
      refine lv_iload_n hx hb dX0_turned_42 rfl (lv_at hl 3 rfl) ?_
      have h9 := Option.some.inj hf
      have h8 := congrArg Prod.fst h9
      have h7 := congrArg Prod.snd h9
      exact W.iret (v := x3) hx hb hr (fun t ht hW => ⟨⟨x3, (), rfl, ⟨h8, h7⟩, by rw [ht]; exact hP, va_K.moved hW.alike hK, hD⟩, hS.F ht⟩) hS.2.2 dX0_turned_43
    · replace hf := (if_neg c_1).symm.trans hf
      refine lv_aload_n hx hb dX0_turned_12 rfl (lv_at hl 0 rfl) ?_
      refine va_get (D := (dC, dI)) (ci := 1) (v := .int v_cubes) (C := RX0) (T := TX0) (N := 7) hx hb hts in_X0_turned_X0 hown hK hP 0 rfl rfl 1 (by decide) (hts (.fieldLink RX0 15 "LinkedCovers$Piece" "cubes" "I") lk_X0_turned_f15) (fun _ h9 => h9) rfl dX0_turned_13 ?_
      refine lv_iload hx hb dX0_turned_16 (lv_at hl 4 rfl) ?_
      refine lv_ishr hx hb dX0_turned_18 ?_
      refine lv_iconst (v := 1) hx hb dX0_turned_19 (by decide) ?_
      refine lv_iand hx hb dX0_turned_20 ?_
      refine lv_if_eq (tgt := 36) hx hb dX0_turned_21 (by decide) (fun c_2 => ?_) (fun c_2 => ?_)
      · replace hf := (if_pos c_2).symm.trans hf
        exact w_X0_turned_36 C0 hK hax ih x1 x2 x3 x4 hf _ _ hP hD hS ls (lv_sub hl [0, 1, 2, 3, 4] rfl)
      · replace hf := (if_neg c_2).symm.trans hf
        refine lv_iload_n hx hb dX0_turned_24 rfl (lv_at hl 3 rfl) ?_
        refine lv_iconst (v := 1) hx hb dX0_turned_25 (by decide) ?_
        refine lv_iload hx hb dX0_turned_26 (lv_at hl 4 rfl) ?_
        refine lv_iload_n hx hb dX0_turned_28 rfl (lv_at hl 1 rfl) ?_
        refine lv_iload_n hx hb dX0_turned_29 rfl (lv_at hl 2 rfl) ?_
        obtain ⟨o_3, ho_3, hf⟩ := gd_bd hf
        have hPc := hP.sub (ws' := ws_X0_turnedCell cB cI cJ cZ  ) [] rfl
        have hDc := hD.sub (ws' := ws_X0_turnedCell cB cI cJ cZ  ) [] (by decide) rfl
        have hFc := va_free (wc := ws_X0_turnedCell cB cI cJ cZ  ) hD hS hA [] rfl
        refine va_calli (va_runS (As := [.int x4, .int x1, .int x2]) (rest := [.int (1 : Int32), .int x3]) ⟨hx, hb, hml, hown, hts⟩ (c_X0_turnedCell l dC dI cB cI cJ cZ H.size x4 x1 x2 o_3 ho_3) (va_cwS 3 hts gX0_turned_X0_turnedCell rfl rfl rfl nd_X0_turnedCell ⟨Nat.le_of_ble_eq_true rfl, Nat.le_of_ble_eq_true rfl⟩) ⟨fun a U g mk q => by obtain ⟨q0, q1, qP, qK, qD, qax⟩ := q; exact ⟨q0, q1, qP, va_K.moved (u := U) (U := U.calling g mk a) (Vm.Alike.refl U.vm) qK, qD, qax.call⟩, fun U hU hW => ⟨rfl, by rw [hU], by rw [hU]; exact hPc, va_K.moved hW.alike hK, hDc.weaken (fun _ _ _ _ => trivial), hax.go hS hFc hU hW⟩⟩ rfl rfl hl.1 rfl (lv_room (Nat.le_of_ble_eq_true rfl)) dX0_turned_30 ⟨Nat.le_of_ble_eq_true rfl, Nat.le_of_ble_eq_true rfl⟩) hS (fun q _ h => hFc q h) hFc (fun r_3 u_3 t H1 locs ht hvm hw hB hz1 hk1 hS => ?_)
        obtain ⟨rfl, rfl⟩ := hw
        obtain ⟨hP1, hK1, hD1⟩ := hB
        rw [ht] at hP1
        obtain ⟨hP, hD⟩ := va_join (wr := [(a_this, .inr (1, [.ref a_sets, .int v_cubes, .int v_width, .int v_height, .int v_depth, .int v_setCount, .int v_roomIsShort]))]) (w1 := ws_X0_turnedCell cB cI cJ cZ  ) hP hD [] [0] rfl rfl (by decide) (by decide) hk1 hFc hP1 hD1
        generalize H1 = H at hP hS ⊢
        have hP : va_P (dC, dI) vwCl (ws_X0_turned cB cI cJ cZ a_this a_sets v_cubes v_width v_height v_depth v_setCount v_roomIsShort) H := hP.sub [0] rfl
        have hD : va_D A (ws_X0_turned cB cI cJ cZ a_this a_sets v_cubes v_width v_height v_depth v_setCount v_roomIsShort) := hD.sub [0] (by decide) rfl
        refine lv_ishl hx hb dX0_turned_33 ?_
        refine lv_ior hx hb dX0_turned_34 ?_
        refine lv_istore_n (lv' := [(3, .int (x3 ||| ((1 : Int32) <<< (o_3.1 &&& 31)))), (0, .ref a_this), (1, .int x1), (2, .int x2), (4, .int x4)]) hx hb dX0_turned_35 rfl hl (by decide) rfl (fun ls hl => ?_)
        exact w_X0_turned_36 C0 hK hax ih x1 x2 (x3 ||| ((1 : Int32) <<< (o_3.1 &&& 31))) x4 hf _ _ hP hD hS ls (lv_sub hl [1, 2, 3, 0, 4] rfl)
set_option maxHeartbeats 4000000 in
set_option maxRecDepth 100000 in
theorem w_X0_turned_0 {p : Program} {l : Launch} {e : Env} {s : State} {m : MethodId} {args : Array Value} {below : List Frame} {meth : Method} {c : Code} {A : Nat → Prop} {dC : Nat → ClassId} {dI : Nat → Nat → Nat} {cB cI cJ cZ : ClassId} {a_this a_sets : Nat} {v_cubes : Int32} {v_width : Int32} {v_height : Int32} {v_depth : Int32} {v_setCount : Int32} {v_roomIsShort : Int32} {out : Int32 × Unit} (C0 : Cx RX0 cX0_turned (some .int) 5 wsX0_turned p s m args meth c A) (hK : va_K (dC, dI) vwCl (tysG cB cI cJ cZ) s) (hax : ax A s)  : g_X0_turned_0 p l e s m args below meth c A dC dI cB cI cJ cZ a_this a_sets v_cubes v_width v_height v_depth v_setCount v_roomIsShort out (f_X0_turned v_cubes ) := by
  obtain ⟨hx, hb, hr, hml, hown, hts, hlocks, hA⟩ := id C0
  intro x1 x2 hf H locs hP hD hS ls hl
  replace hf : ((f_X0_turned_5 v_cubes 1000000 x1 x2 (0 : Int32) (0 : Int32)) : Option (Int32 × Unit)) = some out := hf
  refine lv_iconst (v := 0) hx hb dX0_turned_0 (by decide) ?_
  refine lv_istore_n (lv' := [(3, .int (0 : Int32)), (0, .ref a_this), (1, .int x1), (2, .int x2)]) hx hb dX0_turned_1 rfl hl (by decide) rfl (fun ls hl => ?_)
  refine lv_iconst (v := 0) hx hb dX0_turned_2 (by decide) ?_
  refine lv_istore (lv' := [(4, .int (0 : Int32)), (3, .int (0 : Int32)), (0, .ref a_this), (1, .int x1), (2, .int x2)]) hx hb dX0_turned_3 hl (by decide) rfl (fun ls hl => ?_)
  exact w_X0_turned_5 C0 hK hax 1000000 x1 x2 (0 : Int32) (0 : Int32) hf _ _ hP hD hS ls (lv_sub hl [2, 3, 4, 1, 0] rfl)
theorem nd_X0_turned : yX0_turned.cls ≠ "java/lang/invoke/MethodHandle" ∧ yX0_turned.cls ≠ "java/lang/invoke/VarHandle" ∧ (parseMethodDescriptor yX0_turned.desc).map (fun d => d.parameters.length) = some 2 := by decide +kernel
set_option maxHeartbeats 4000000 in
set_option maxRecDepth 100000 in
theorem c_X0_turned (l : Launch) (dC : Nat → ClassId) (dI : Nat → Nat → Nat) (cB cI cJ cZ : ClassId) (a_this a_sets : Nat) (sz : Nat) (v_cubes : Int32) (v_width : Int32) (v_height : Int32) (v_depth : Int32) (v_setCount : Int32) (v_roomIsShort : Int32) (x1 : Int32) (x2 : Int32) (out : Int32 × Unit) (hf : f_X0_turned v_cubes x1 x2 = some out) : Met l yX0_turned wsX0_turned rm_X0_turned (va_Pc [.ref a_this, .int x1, .int x2] (fun U => U.heap.size = sz ∧ va_P (dC, dI) vwCl (ws_X0_turned cB cI cJ cZ a_this a_sets v_cubes v_width v_height v_depth v_setCount v_roomIsShort) U.heap ∧ va_K (dC, dI) vwCl (tysG cB cI cJ cZ) U ∧ va_D (fun _ => True) (ws_X0_turned cB cI cJ cZ a_this a_sets v_cubes v_width v_height v_depth v_setCount v_roomIsShort) ∧ ax (va_A (ws_X0_turned cB cI cJ cZ a_this a_sets v_cubes v_width v_height v_depth v_setCount v_roomIsShort) sz) U)) (qc_X0_turned (va_A (ws_X0_turned cB cI cJ cZ a_this a_sets v_cubes v_width v_height v_depth v_setCount v_roomIsShort) sz) dC dI cB cI cJ cZ a_this a_sets v_cubes v_width v_height v_depth v_setCount v_roomIsShort out) 0 0 (va_A (ws_X0_turned cB cI cJ cZ a_this a_sets v_cubes v_width v_height v_depth v_setCount v_roomIsShort) sz) := by
  refine Met.ofW (cc := cX0_turned) (maxL := 5) (ret := (some .int)) (by decide) rfl ?_
  intro p e s m args below meth c s₁ B hml hv
  obtain ⟨rfl, hsz, hP, hK, hD0, hax⟩ := hv
  subst hsz
  have hD := hD0.self (sz := s.heap.size)
  generalize hAe : va_A (ws_X0_turned cB cI cJ cZ a_this a_sets v_cubes v_width v_height v_depth v_setCount v_roomIsShort) s.heap.size = A at hD hax ⊢
  have hA : ∀ q : Nat, s.heap.size ≤ q → A q := fun q h => by rw [← hAe]; exact Or.inr h
  have hl := lv_entry ([.ref a_this, .int x1, .int x2]) (n := 5) (Nat.le_of_ble_eq_true rfl)
  rw [lg_entry_eq]
  generalize (lg_sl ([.ref a_this, .int x1, .int x2]) ++ List.replicate (5 - (lg_sl ([.ref a_this, .int x1, .int x2])).length) Slot.unset).toArray = ls at hl ⊢
  have hl : lv_has ls 5 [(0, .ref a_this), (1, .int x1), (2, .int x2)] := hl
  exact w_X0_turned_0 ⟨B.exec, B.bytes, B.returns, hml, findClass_of_methodNamed B.named, atoms_spec (ws := wsX0_turned) B.pre, B.notSynchronized, hA⟩ hK hax x1 x2 hf _ _ hP hD va_S.rf ls (lv_sub hl [0, 1, 2] rfl)
-- X0.findSets(II)I: 44 instructions
theorem in_X0_findSets_X0 : ∀ w ∈ wsX00, w ∈ wsX0_findSets := by decide +kernel
abbrev ws_X0_findSets (cB cI cJ cZ : ClassId) (a_this a_sets : Nat) (v_cubes : Int32) (v_width : Int32) (v_height : Int32) (v_depth : Int32) (v_setCount : Int32) (v_roomIsShort : Int32) (v_sets : (Nat → Int32)) : va_W := [(a_this, .inr (1, [.ref a_sets, .int v_cubes, .int v_width, .int v_height, .int v_depth, .int v_setCount, .int v_roomIsShort])), (a_sets, .inl (cI, 60, .inl v_sets))]
abbrev rm_X0_findSets : Room := { frames := 3, cells := 0, slots := 0, locals := 76 }
theorem lk_X0_findSets_f37 : Cond.fieldLink RX0 37 "LinkedCovers$Piece" "roomIsShort" "Z" ∈ wsX0_findSets := by decide +kernel
theorem lk_X0_findSets_f34 : Cond.fieldLink RX0 34 "LinkedCovers$Piece" "setCount" "I" ∈ wsX0_findSets := by decide +kernel
def f_X0_findSets_59 (v_cubes : Int32) (v_width : Int32) (v_height : Int32) (v_depth : Int32) (k_12 : Int32 → Int32 → (Nat → Int32) → Int32 → Int32 → Int32 → Option (Int32 × Int32 × Int32 × (Nat → Int32))) (k_21 : Int32 → Int32 → (Nat → Int32) → Int32 → Int32 → Int32 → Int32 → Option (Int32 × Int32 × Int32 × (Nat → Int32))) (v_setCount : Int32) (v_roomIsShort : Int32) (v_sets : (Nat → Int32)) (x1 : Int32) (x2 : Int32) (x3 : Int32) (x4 : Int32) : Option (Int32 × Int32 × Int32 × (Nat → Int32)) :=
  k_21 v_setCount v_roomIsShort v_sets x1 x2 x3 (x4 + 1)
def f_X0_findSets_21 (v_cubes : Int32) (v_width : Int32) (v_height : Int32) (v_depth : Int32) (k_12 : Int32 → Int32 → (Nat → Int32) → Int32 → Int32 → Int32 → Option (Int32 × Int32 × Int32 × (Nat → Int32))) : Nat → Int32 → Int32 → (Nat → Int32) → Int32 → Int32 → Int32 → Int32 → Option (Int32 × Int32 × Int32 × (Nat → Int32))
  | 0 => fun _ _ _ _ _ _ _ => none
  | n + 1 => fun v_setCount v_roomIsShort v_sets x1 x2 x3 x4 => if (8 : Int32) ≤ x4 then
  (k_12 v_setCount v_roomIsShort v_sets x1 x2 (x3 + 1))
  else
  ((f_X0_isTurn x3 x4).bind (fun o_2 =>
  if o_2.1 = 0 then
  (f_X0_findSets_59 v_cubes v_width v_height v_depth k_12 (f_X0_findSets_21 v_cubes v_width v_height v_depth k_12 n) v_setCount v_roomIsShort v_sets x1 x2 x3 x4)
  else
  ((f_X0_isOfKind x1 x3 x4).bind (fun o_4 =>
  if o_4.1 = 0 then
  (f_X0_findSets_59 v_cubes v_width v_height v_depth k_12 (f_X0_findSets_21 v_cubes v_width v_height v_depth k_12 n) v_setCount v_roomIsShort v_sets x1 x2 x3 x4)
  else
  ((f_X0_turned v_cubes x3 x4).bind (fun o_6 =>
  (f_X0_moveAbout v_width v_height v_depth v_setCount v_roomIsShort v_sets o_6.1 x2).bind (fun o_7 =>
  f_X0_findSets_59 v_cubes v_width v_height v_depth k_12 (f_X0_findSets_21 v_cubes v_width v_height v_depth k_12 n) o_7.1 o_7.2.1 o_7.2.2 x1 x2 x3 x4)))))))
def f_X0_findSets_86 (v_cubes : Int32) (v_width : Int32) (v_height : Int32) (v_depth : Int32)  (v_setCount : Int32) (v_roomIsShort : Int32) (v_sets : (Nat → Int32)) (y0 : Int32) : Option (Int32 × Int32 × Int32 × (Nat → Int32)) :=
  some ((y0, (v_setCount, v_roomIsShort, v_sets)))
def f_X0_findSets_12 (v_cubes : Int32) (v_width : Int32) (v_height : Int32) (v_depth : Int32)  : Nat → Int32 → Int32 → (Nat → Int32) → Int32 → Int32 → Int32 → Option (Int32 × Int32 × Int32 × (Nat → Int32))
  | 0 => fun _ _ _ _ _ _ => none
  | n + 1 => fun v_setCount v_roomIsShort v_sets x1 x2 x3 => if (6 : Int32) ≤ x3 then
  (if v_roomIsShort = 0 then
  (f_X0_findSets_86 v_cubes v_width v_height v_depth v_setCount v_roomIsShort v_sets v_setCount)
  else
  (f_X0_findSets_86 v_cubes v_width v_height v_depth v_setCount v_roomIsShort v_sets (-1 : Int32)))
  else
  (f_X0_findSets_21 v_cubes v_width v_height v_depth (f_X0_findSets_12 v_cubes v_width v_height v_depth n) 1000000 v_setCount v_roomIsShort v_sets x1 x2 x3 (0 : Int32))
def f_X0_findSets (v_cubes : Int32) (v_width : Int32) (v_height : Int32) (v_depth : Int32)  (v_setCount : Int32) (v_roomIsShort : Int32) (v_sets : (Nat → Int32)) (x1 : Int32) (x2 : Int32) : Option (Int32 × Int32 × Int32 × (Nat → Int32)) :=
  f_X0_findSets_12 v_cubes v_width v_height v_depth 1000000 (0 : Int32) (0 : Int32) v_sets x1 x2 (0 : Int32)
abbrev qc_X0_findSets (A : Nat → Prop) (dC : Nat → ClassId) (dI : Nat → Nat → Nat) (cB cI cJ cZ : ClassId) (a_this a_sets : Nat) (v_cubes : Int32) (v_width : Int32) (v_height : Int32) (v_depth : Int32) (out : Int32 × Int32 × Int32 × (Nat → Int32)) : Array Value → State → Outcome → State → Prop := va_Qi (fun (r : Int32) (u : Int32 × Int32 × (Nat → Int32)) => r = out.1 ∧ u = out.2) (fun (u : Int32 × Int32 × (Nat → Int32)) (t : State) => va_P (dC, dI) vwCl (ws_X0_findSets cB cI cJ cZ a_this a_sets v_cubes v_width v_height v_depth u.1 u.2.1 u.2.2) t.heap ∧ va_K (dC, dI) vwCl (tysG cB cI cJ cZ) t ∧ va_D A (ws_X0_findSets cB cI cJ cZ a_this a_sets v_cubes v_width v_height v_depth u.1 u.2.1 u.2.2)) A
abbrev g_X0_findSets_59 (p : Program) (l : Launch) (e : Env) (s : State) (m : MethodId) (args : Array Value) (below : List Frame) (meth : Method) (c : Code) (A : Nat → Prop) (dC : Nat → ClassId) (dI : Nat → Nat → Nat) (cB cI cJ cZ : ClassId) (a_this a_sets : Nat) (v_cubes : Int32) (v_width : Int32) (v_height : Int32) (v_depth : Int32) (out : Int32 × Int32 × Int32 × (Nat → Int32)) (k : Int32 → Int32 → (Nat → Int32) → Int32 → Int32 → Int32 → Int32 → Option (Int32 × Int32 × Int32 × (Nat → Int32))) : Prop := ∀ (v_setCount : Int32) (v_roomIsShort : Int32) (v_sets : (Nat → Int32)) (x1 : Int32) (x2 : Int32) (x3 : Int32) (x4 : Int32), k v_setCount v_roomIsShort v_sets x1 x2 x3 x4 = some out → ∀ (H : Heap) (locs : List Loc), va_P (dC, dI) vwCl (ws_X0_findSets cB cI cJ cZ a_this a_sets v_cubes v_width v_height v_depth v_setCount v_roomIsShort v_sets) H → va_D A (ws_X0_findSets cB cI cJ cZ a_this a_sets v_cubes v_width v_height v_depth v_setCount v_roomIsShort v_sets) → va_S A s.heap H locs → ∀ (ls : Array Slot), lv_has ls 5 [(0, .ref a_this), (1, .int x1), (2, .int x2), (3, .int x3), (4, .int x4)] → W p l e (headSpec wsX0_findSets rm_X0_findSets).room s m args below meth c H locs 0 0 (MQ below (qc_X0_findSets A dC dI cB cI cJ cZ a_this a_sets v_cubes v_width v_height v_depth out) args s 0 0 A) (F0 m 59 ls [])
abbrev g_X0_findSets_21 (p : Program) (l : Launch) (e : Env) (s : State) (m : MethodId) (args : Array Value) (below : List Frame) (meth : Method) (c : Code) (A : Nat → Prop) (dC : Nat → ClassId) (dI : Nat → Nat → Nat) (cB cI cJ cZ : ClassId) (a_this a_sets : Nat) (v_cubes : Int32) (v_width : Int32) (v_height : Int32) (v_depth : Int32) (out : Int32 × Int32 × Int32 × (Nat → Int32)) (k : Int32 → Int32 → (Nat → Int32) → Int32 → Int32 → Int32 → Int32 → Option (Int32 × Int32 × Int32 × (Nat → Int32))) : Prop := ∀ (v_setCount : Int32) (v_roomIsShort : Int32) (v_sets : (Nat → Int32)) (x1 : Int32) (x2 : Int32) (x3 : Int32) (x4 : Int32), k v_setCount v_roomIsShort v_sets x1 x2 x3 x4 = some out → ∀ (H : Heap) (locs : List Loc), va_P (dC, dI) vwCl (ws_X0_findSets cB cI cJ cZ a_this a_sets v_cubes v_width v_height v_depth v_setCount v_roomIsShort v_sets) H → va_D A (ws_X0_findSets cB cI cJ cZ a_this a_sets v_cubes v_width v_height v_depth v_setCount v_roomIsShort v_sets) → va_S A s.heap H locs → ∀ (ls : Array Slot), lv_has ls 5 [(0, .ref a_this), (1, .int x1), (2, .int x2), (3, .int x3), (4, .int x4)] → W p l e (headSpec wsX0_findSets rm_X0_findSets).room s m args below meth c H locs 0 0 (MQ below (qc_X0_findSets A dC dI cB cI cJ cZ a_this a_sets v_cubes v_width v_height v_depth out) args s 0 0 A) (F0 m 21 ls [])
abbrev g_X0_findSets_86 (p : Program) (l : Launch) (e : Env) (s : State) (m : MethodId) (args : Array Value) (below : List Frame) (meth : Method) (c : Code) (A : Nat → Prop) (dC : Nat → ClassId) (dI : Nat → Nat → Nat) (cB cI cJ cZ : ClassId) (a_this a_sets : Nat) (v_cubes : Int32) (v_width : Int32) (v_height : Int32) (v_depth : Int32) (out : Int32 × Int32 × Int32 × (Nat → Int32)) (k : Int32 → Int32 → (Nat → Int32) → Int32 → Option (Int32 × Int32 × Int32 × (Nat → Int32))) : Prop := ∀ (v_setCount : Int32) (v_roomIsShort : Int32) (v_sets : (Nat → Int32)) (y0 : Int32), k v_setCount v_roomIsShort v_sets y0 = some out → ∀ (H : Heap) (locs : List Loc), va_P (dC, dI) vwCl (ws_X0_findSets cB cI cJ cZ a_this a_sets v_cubes v_width v_height v_depth v_setCount v_roomIsShort v_sets) H → va_D A (ws_X0_findSets cB cI cJ cZ a_this a_sets v_cubes v_width v_height v_depth v_setCount v_roomIsShort v_sets) → va_S A s.heap H locs → ∀ (ls : Array Slot), lv_has ls 5 [] → W p l e (headSpec wsX0_findSets rm_X0_findSets).room s m args below meth c H locs 0 0 (MQ below (qc_X0_findSets A dC dI cB cI cJ cZ a_this a_sets v_cubes v_width v_height v_depth out) args s 0 0 A) (F0 m 86 ls [.int y0])
abbrev g_X0_findSets_12 (p : Program) (l : Launch) (e : Env) (s : State) (m : MethodId) (args : Array Value) (below : List Frame) (meth : Method) (c : Code) (A : Nat → Prop) (dC : Nat → ClassId) (dI : Nat → Nat → Nat) (cB cI cJ cZ : ClassId) (a_this a_sets : Nat) (v_cubes : Int32) (v_width : Int32) (v_height : Int32) (v_depth : Int32) (out : Int32 × Int32 × Int32 × (Nat → Int32)) (k : Int32 → Int32 → (Nat → Int32) → Int32 → Int32 → Int32 → Option (Int32 × Int32 × Int32 × (Nat → Int32))) : Prop := ∀ (v_setCount : Int32) (v_roomIsShort : Int32) (v_sets : (Nat → Int32)) (x1 : Int32) (x2 : Int32) (x3 : Int32), k v_setCount v_roomIsShort v_sets x1 x2 x3 = some out → ∀ (H : Heap) (locs : List Loc), va_P (dC, dI) vwCl (ws_X0_findSets cB cI cJ cZ a_this a_sets v_cubes v_width v_height v_depth v_setCount v_roomIsShort v_sets) H → va_D A (ws_X0_findSets cB cI cJ cZ a_this a_sets v_cubes v_width v_height v_depth v_setCount v_roomIsShort v_sets) → va_S A s.heap H locs → ∀ (ls : Array Slot), lv_has ls 5 [(0, .ref a_this), (1, .int x1), (2, .int x2), (3, .int x3)] → W p l e (headSpec wsX0_findSets rm_X0_findSets).room s m args below meth c H locs 0 0 (MQ below (qc_X0_findSets A dC dI cB cI cJ cZ a_this a_sets v_cubes v_width v_height v_depth out) args s 0 0 A) (F0 m 12 ls [])
abbrev g_X0_findSets_0 (p : Program) (l : Launch) (e : Env) (s : State) (m : MethodId) (args : Array Value) (below : List Frame) (meth : Method) (c : Code) (A : Nat → Prop) (dC : Nat → ClassId) (dI : Nat → Nat → Nat) (cB cI cJ cZ : ClassId) (a_this a_sets : Nat) (v_cubes : Int32) (v_width : Int32) (v_height : Int32) (v_depth : Int32) (out : Int32 × Int32 × Int32 × (Nat → Int32)) (k : Int32 → Int32 → (Nat → Int32) → Int32 → Int32 → Option (Int32 × Int32 × Int32 × (Nat → Int32))) : Prop := ∀ (v_setCount : Int32) (v_roomIsShort : Int32) (v_sets : (Nat → Int32)) (x1 : Int32) (x2 : Int32), k v_setCount v_roomIsShort v_sets x1 x2 = some out → ∀ (H : Heap) (locs : List Loc), va_P (dC, dI) vwCl (ws_X0_findSets cB cI cJ cZ a_this a_sets v_cubes v_width v_height v_depth v_setCount v_roomIsShort v_sets) H → va_D A (ws_X0_findSets cB cI cJ cZ a_this a_sets v_cubes v_width v_height v_depth v_setCount v_roomIsShort v_sets) → va_S A s.heap H locs → ∀ (ls : Array Slot), lv_has ls 5 [(0, .ref a_this), (1, .int x1), (2, .int x2)] → W p l e (headSpec wsX0_findSets rm_X0_findSets).room s m args below meth c H locs 0 0 (MQ below (qc_X0_findSets A dC dI cB cI cJ cZ a_this a_sets v_cubes v_width v_height v_depth out) args s 0 0 A) (F0 m 0 ls [])
set_option maxHeartbeats 4000000 in
set_option maxRecDepth 100000 in
theorem w_X0_findSets_59 {p : Program} {l : Launch} {e : Env} {s : State} {m : MethodId} {args : Array Value} {below : List Frame} {meth : Method} {c : Code} {A : Nat → Prop} {dC : Nat → ClassId} {dI : Nat → Nat → Nat} {cB cI cJ cZ : ClassId} {a_this a_sets : Nat} {v_cubes : Int32} {v_width : Int32} {v_height : Int32} {v_depth : Int32} {out : Int32 × Int32 × Int32 × (Nat → Int32)} (C0 : Cx RX0 cX0_findSets (some .int) 5 wsX0_findSets p s m args meth c A) (hK : va_K (dC, dI) vwCl (tysG cB cI cJ cZ) s) (hax : ax A s) {k_12 : Int32 → Int32 → (Nat → Int32) → Int32 → Int32 → Int32 → Option (Int32 × Int32 × Int32 × (Nat → Int32))} (hk_12 : g_X0_findSets_12 p l e s m args below meth c A dC dI cB cI cJ cZ a_this a_sets v_cubes v_width v_height v_depth out k_12) {k_21 : Int32 → Int32 → (Nat → Int32) → Int32 → Int32 → Int32 → Int32 → Option (Int32 × Int32 × Int32 × (Nat → Int32))} (hk_21 : g_X0_findSets_21 p l e s m args below meth c A dC dI cB cI cJ cZ a_this a_sets v_cubes v_width v_height v_depth out k_21) : g_X0_findSets_59 p l e s m args below meth c A dC dI cB cI cJ cZ a_this a_sets v_cubes v_width v_height v_depth out (f_X0_findSets_59 v_cubes v_width v_height v_depth k_12 k_21) := by
  obtain ⟨hx, hb, hr, hml, hown, hts, hlocks, hA⟩ := id C0
  intro v_setCount v_roomIsShort v_sets x1 x2 x3 x4 hf H locs hP hD hS ls hl
  replace hf : ((k_21 v_setCount v_roomIsShort v_sets x1 x2 x3 (x4 + 1)) : Option (Int32 × Int32 × Int32 × (Nat → Int32))) = some out := hf
  refine lv_iinc (v := (x4 + 1)) (lv' := [(4, .int (x4 + 1)), (0, .ref a_this), (1, .int x1), (2, .int x2), (3, .int x3)]) hx hb dX0_findSets_59 hl (k := 4) rfl rfl (by decide) rfl (fun ls hl => ?_)
  refine lv_goto (tgt := 21) hx hb dX0_findSets_62 (by decide) ?_
  exact hk_21 v_setCount v_roomIsShort v_sets x1 x2 x3 (x4 + 1) hf _ _ hP hD hS ls (lv_sub hl [1, 2, 3, 4, 0] rfl)
set_option maxHeartbeats 4000000 in
set_option maxRecDepth 100000 in
theorem w_X0_findSets_21 {p : Program} {l : Launch} {e : Env} {s : State} {m : MethodId} {args : Array Value} {below : List Frame} {meth : Method} {c : Code} {A : Nat → Prop} {dC : Nat → ClassId} {dI : Nat → Nat → Nat} {cB cI cJ cZ : ClassId} {a_this a_sets : Nat} {v_cubes : Int32} {v_width : Int32} {v_height : Int32} {v_depth : Int32} {out : Int32 × Int32 × Int32 × (Nat → Int32)} (C0 : Cx RX0 cX0_findSets (some .int) 5 wsX0_findSets p s m args meth c A) (hK : va_K (dC, dI) vwCl (tysG cB cI cJ cZ) s) (hax : ax A s) {k_12 : Int32 → Int32 → (Nat → Int32) → Int32 → Int32 → Int32 → Option (Int32 × Int32 × Int32 × (Nat → Int32))} (hk_12 : g_X0_findSets_12 p l e s m args below meth c A dC dI cB cI cJ cZ a_this a_sets v_cubes v_width v_height v_depth out k_12) : ∀ n : Nat, g_X0_findSets_21 p l e s m args below meth c A dC dI cB cI cJ cZ a_this a_sets v_cubes v_width v_height v_depth out (f_X0_findSets_21 v_cubes v_width v_height v_depth k_12 n) := by
  obtain ⟨hx, hb, hr, hml, hown, hts, hlocks, hA⟩ := id C0
  intro n
  induction n with
  | zero =>
    intro v_setCount v_roomIsShort v_sets x1 x2 x3 x4 hf H locs hP hD hS ls hl
    exact nomatch (show (none : Option (Int32 × Int32 × Int32 × (Nat → Int32))) = some out from hf)
  | succ n ih =>
    intro v_setCount v_roomIsShort v_sets x1 x2 x3 x4 hf H locs hP hD hS ls hl
    replace hf : ((if (8 : Int32) ≤ x4 then
  (k_12 v_setCount v_roomIsShort v_sets x1 x2 (x3 + 1))
  else
  ((f_X0_isTurn x3 x4).bind (fun o_2 =>
  if o_2.1 = 0 then
  (f_X0_findSets_59 v_cubes v_width v_height v_depth k_12 (f_X0_findSets_21 v_cubes v_width v_height v_depth k_12 n) v_setCount v_roomIsShort v_sets x1 x2 x3 x4)
  else
  ((f_X0_isOfKind x1 x3 x4).bind (fun o_4 =>
  if o_4.1 = 0 then
  (f_X0_findSets_59 v_cubes v_width v_height v_depth k_12 (f_X0_findSets_21 v_cubes v_width v_height v_depth k_12 n) v_setCount v_roomIsShort v_sets x1 x2 x3 x4)
  else
  ((f_X0_turned v_cubes x3 x4).bind (fun o_6 =>
  (f_X0_moveAbout v_width v_height v_depth v_setCount v_roomIsShort v_sets o_6.1 x2).bind (fun o_7 =>
  f_X0_findSets_59 v_cubes v_width v_height v_depth k_12 (f_X0_findSets_21 v_cubes v_width v_height v_depth k_12 n) o_7.1 o_7.2.1 o_7.2.2 x1 x2 x3 x4)))))))) : Option (Int32 × Int32 × Int32 × (Nat → Int32))) = some out := hf
    refine lv_iload hx hb dX0_findSets_21 (lv_at hl 4 rfl) ?_
    refine lv_bipush (v := 8) hx hb dX0_findSets_23 (by decide) ?_
    refine lv_icmp_ge (tgt := 65) hx hb dX0_findSets_25 (by decide) (fun c_1 => ?_) (fun c_1 => ?_)
    · replace hf := (if_pos c_1).symm.trans hf
      refine lv_iinc (v := (x3 + 1)) (lv' := [(3, .int (x3 + 1)), (0, .ref a_this), (1, .int x1), (2, .int x2), (4, .int x4)]) hx hb dX0_findSets_65 hl (k := 3) rfl rfl (by decide) rfl (fun ls hl => ?_)
      refine lv_goto (tgt := 12) hx hb dX0_findSets_68 (by decide) ?_
      exact hk_12 v_setCount v_roomIsShort v_sets x1 x2 (x3 + 1) hf _ _ hP hD hS ls (lv_sub hl [1, 2, 3, 0] rfl)
    · replace hf := (if_neg c_1).symm.trans hf
      refine lv_iload_n hx hb dX0_findSets_28 rfl (lv_at hl 3 rfl) ?_
      refine lv_iload hx hb dX0_findSets_29 (lv_at hl 4 rfl) ?_
      obtain ⟨o_2, ho_2, hf⟩ := gd_bd hf
      have hPc := hP.sub (ws' := ws_X0_isTurn cB cI cJ cZ  ) [] rfl
      have hDc := hD.sub (ws' := ws_X0_isTurn cB cI cJ cZ  ) [] (by decide) rfl
      have hFc := va_free (wc := ws_X0_isTurn cB cI cJ cZ  ) hD hS hA [] rfl
      refine va_calli (va_runS (As := [.int x3, .int x4]) (rest := []) ⟨hx, hb, hml, hown, hts⟩ (c_X0_isTurn l dC dI cB cI cJ cZ H.size x3 x4 o_2 ho_2) (va_cwS 2 hts gX0_findSets_X0_isTurn rfl rfl rfl nd_X0_isTurn ⟨Nat.le_of_ble_eq_true rfl, Nat.le_of_ble_eq_true rfl⟩) ⟨fun a U g mk q => by obtain ⟨q0, q1, qP, qK, qD⟩ := q; exact ⟨q0, q1, qP, va_K.moved (u := U) (U := U.calling g mk a) (Vm.Alike.refl U.vm) qK, qD⟩, fun U hU hW => ⟨rfl, by rw [hU], by rw [hU]; exact hPc, va_K.moved hW.alike hK, hDc.weaken (fun _ _ _ _ => trivial)⟩⟩ rfl rfl hl.1 rfl (lv_room (Nat.le_of_ble_eq_true rfl)) dX0_findSets_31 ⟨Nat.le_of_ble_eq_true rfl, Nat.le_of_ble_eq_true rfl⟩) hS (fun q _ h => hFc q h) hFc (fun r_2 u_2 t H1 locs ht hvm hw hB hz1 hk1 hS => ?_)
      obtain ⟨rfl, rfl⟩ := hw
      obtain ⟨hP1, hK1, hD1⟩ := hB
      rw [ht] at hP1
      obtain ⟨hP, hD⟩ := va_join (wr := [(a_this, .inr (1, [.ref a_sets, .int v_cubes, .int v_width, .int v_height, .int v_depth, .int v_setCount, .int v_roomIsShort])), (a_sets, .inl (cI, 60, .inl v_sets))]) (w1 := ws_X0_isTurn cB cI cJ cZ  ) hP hD [] [0, 1] rfl rfl (by decide) (by decide) hk1 hFc hP1 hD1
      generalize H1 = H at hP hS ⊢
      have hP : va_P (dC, dI) vwCl (ws_X0_findSets cB cI cJ cZ a_this a_sets v_cubes v_width v_height v_depth v_setCount v_roomIsShort v_sets) H := hP.sub [0, 1] rfl
      have hD : va_D A (ws_X0_findSets cB cI cJ cZ a_this a_sets v_cubes v_width v_height v_depth v_setCount v_roomIsShort v_sets) := hD.sub [0, 1] (by decide) rfl
      refine lv_if_eq (tgt := 59) hx hb dX0_findSets_34 (by decide) (fun c_3 => ?_) (fun c_3 => ?_)
      · replace hf := (if_pos c_3).symm.trans hf
        exact w_X0_findSets_59 C0 hK hax hk_12 ih v_setCount v_roomIsShort v_sets x1 x2 x3 x4 hf _ _ hP hD hS ls (lv_sub hl [0, 1, 2, 3, 4] rfl)
      · replace hf := (if_neg c_3).symm.trans hf
        refine lv_iload_n hx hb dX0_findSets_37 rfl (lv_at hl 1 rfl) ?_
        refine lv_iload_n hx hb dX0_findSets_38 rfl (lv_at hl 3 rfl) ?_
        refine lv_iload hx hb dX0_findSets_39 (lv_at hl 4 rfl) ?_
        obtain ⟨o_4, ho_4, hf⟩ := gd_bd hf
        have hPc := hP.sub (ws' := ws_X0_isOfKind cB cI cJ cZ  ) [] rfl
        have hDc := hD.sub (ws' := ws_X0_isOfKind cB cI cJ cZ  ) [] (by decide) rfl
        have hFc := va_free (wc := ws_X0_isOfKind cB cI cJ cZ  ) hD hS hA [] rfl
        refine va_calli (va_runS (As := [.int x1, .int x3, .int x4]) (rest := []) ⟨hx, hb, hml, hown, hts⟩ (c_X0_isOfKind l dC dI cB cI cJ cZ H.size x1 x3 x4 o_4 ho_4) (va_cwS 3 hts gX0_findSets_X0_isOfKind rfl rfl rfl nd_X0_isOfKind ⟨Nat.le_of_ble_eq_true rfl, Nat.le_of_ble_eq_true rfl⟩) ⟨fun a U g mk q => by obtain ⟨q0, q1, qP, qK, qD, qax⟩ := q; exact ⟨q0, q1, qP, va_K.moved (u := U) (U := U.calling g mk a) (Vm.Alike.refl U.vm) qK, qD, qax.call⟩, fun U hU hW => ⟨rfl, by rw [hU], by rw [hU]; exact hPc, va_K.moved hW.alike hK, hDc.weaken (fun _ _ _ _ => trivial), hax.go hS hFc hU hW⟩⟩ rfl rfl hl.1 rfl (lv_room (Nat.le_of_ble_eq_true rfl)) dX0_findSets_41 ⟨Nat.le_of_ble_eq_true rfl, Nat.le_of_ble_eq_true rfl⟩) hS (fun q _ h => hFc q h) hFc (fun r_4 u_4 t H1 locs ht hvm hw hB hz1 hk1 hS => ?_)
        obtain ⟨rfl, rfl⟩ := hw
        obtain ⟨hP1, hK1, hD1⟩ := hB
        rw [ht] at hP1
        obtain ⟨hP, hD⟩ := va_join (wr := [(a_this, .inr (1, [.ref a_sets, .int v_cubes, .int v_width, .int v_height, .int v_depth, .int v_setCount, .int v_roomIsShort])), (a_sets, .inl (cI, 60, .inl v_sets))]) (w1 := ws_X0_isOfKind cB cI cJ cZ  ) hP hD [] [0, 1] rfl rfl (by decide) (by decide) hk1 hFc hP1 hD1
        generalize H1 = H at hP hS ⊢
        have hP : va_P (dC, dI) vwCl (ws_X0_findSets cB cI cJ cZ a_this a_sets v_cubes v_width v_height v_depth v_setCount v_roomIsShort v_sets) H := hP.sub [0, 1] rfl
        have hD : va_D A (ws_X0_findSets cB cI cJ cZ a_this a_sets v_cubes v_width v_height v_depth v_setCount v_roomIsShort v_sets) := hD.sub [0, 1] (by decide) rfl
        refine lv_if_eq (tgt := 59) hx hb dX0_findSets_44 (by decide) (fun c_5 => ?_) (fun c_5 => ?_)
        · replace hf := (if_pos c_5).symm.trans hf
          exact w_X0_findSets_59 C0 hK hax hk_12 ih v_setCount v_roomIsShort v_sets x1 x2 x3 x4 hf _ _ hP hD hS ls (lv_sub hl [0, 1, 2, 3, 4] rfl)
        · replace hf := (if_neg c_5).symm.trans hf
          refine lv_aload_n hx hb dX0_findSets_47 rfl (lv_at hl 0 rfl) ?_
          refine lv_aload_n hx hb dX0_findSets_48 rfl (lv_at hl 0 rfl) ?_
          refine lv_iload_n hx hb dX0_findSets_49 rfl (lv_at hl 3 rfl) ?_
          refine lv_iload hx hb dX0_findSets_50 (lv_at hl 4 rfl) ?_
          obtain ⟨o_6, ho_6, hf⟩ := gd_bd hf
          have hPc := hP.sub (ws' := ws_X0_turned cB cI cJ cZ a_this a_sets v_cubes v_width v_height v_depth v_setCount v_roomIsShort) [0] rfl
          have hDc := hD.sub (ws' := ws_X0_turned cB cI cJ cZ a_this a_sets v_cubes v_width v_height v_depth v_setCount v_roomIsShort) [0] (by decide) rfl
          have hFc := va_free (wc := ws_X0_turned cB cI cJ cZ a_this a_sets v_cubes v_width v_height v_depth v_setCount v_roomIsShort) hD hS hA [0] rfl
          refine va_calli (va_runV (As := [.int x3, .int x4]) (rest := [.ref a_this]) ⟨hx, hb, hml, hown, hts⟩ (c_X0_turned l dC dI cB cI cJ cZ a_this a_sets H.size v_cubes v_width v_height v_depth v_setCount v_roomIsShort x3 x4 o_6 ho_6) (cwV 2 hts gX0_findSets_X0_turned rfl rfl rfl ⟨rfl, nd_X0_turned⟩ ⟨Nat.le_of_ble_eq_true rfl, Nat.le_of_ble_eq_true rfl⟩) ⟨fun a U g mk q => by obtain ⟨q0, q1, qP, qK, qD, qax⟩ := q; exact ⟨q0, q1, qP, va_K.moved (u := U) (U := U.calling g mk a) (Vm.Alike.refl U.vm) qK, qD, qax.call⟩, va_recv hK hPc (ci := 1) (q0 := 0) rfl rfl, fun U hU hW => ⟨rfl, by rw [hU], by rw [hU]; exact hPc, va_K.moved hW.alike hK, hDc.weaken (fun _ _ _ _ => trivial), hax.go hS hFc hU hW⟩⟩ rfl rfl hl.1 rfl (lv_room (Nat.le_of_ble_eq_true rfl)) dX0_findSets_52 ⟨Nat.le_of_ble_eq_true rfl, Nat.le_of_ble_eq_true rfl⟩) hS (fun q _ h => hFc q h) hFc (fun r_6 u_6 t H1 locs ht hvm hw hB hz1 hk1 hS => ?_)
          obtain ⟨rfl, rfl⟩ := hw
          obtain ⟨hP1, hK1, hD1⟩ := hB
          rw [ht] at hP1
          obtain ⟨hP, hD⟩ := va_join (wr := [(a_sets, .inl (cI, 60, .inl v_sets))]) (w1 := ws_X0_turned cB cI cJ cZ a_this a_sets v_cubes v_width v_height v_depth v_setCount v_roomIsShort) hP hD [0] [1] rfl rfl (by decide) (by decide) hk1 hFc hP1 hD1
          generalize H1 = H at hP hS ⊢
          have hP : va_P (dC, dI) vwCl (ws_X0_findSets cB cI cJ cZ a_this a_sets v_cubes v_width v_height v_depth v_setCount v_roomIsShort v_sets) H := hP.sub [1, 0] rfl
          have hD : va_D A (ws_X0_findSets cB cI cJ cZ a_this a_sets v_cubes v_width v_height v_depth v_setCount v_roomIsShort v_sets) := hD.sub [1, 0] (by decide) rfl
          refine lv_iload_n hx hb dX0_findSets_55 rfl (lv_at hl 2 rfl) ?_
          obtain ⟨o_7, ho_7, hf⟩ := gd_bd hf
          have hPc := hP.sub (ws' := ws_X0_moveAbout cB cI cJ cZ a_this a_sets v_cubes v_width v_height v_depth v_setCount v_roomIsShort v_sets) [0, 1] rfl
          have hDc := hD.sub (ws' := ws_X0_moveAbout cB cI cJ cZ a_this a_sets v_cubes v_width v_height v_depth v_setCount v_roomIsShort v_sets) [0, 1] (by decide) rfl
          have hFc := va_free (wc := ws_X0_moveAbout cB cI cJ cZ a_this a_sets v_cubes v_width v_height v_depth v_setCount v_roomIsShort v_sets) hD hS hA [0, 1] rfl
          refine va_callv (va_runV (As := [.int o_6.1, .int x2]) (rest := []) ⟨hx, hb, hml, hown, hts⟩ (c_X0_moveAbout l dC dI cB cI cJ cZ a_this a_sets H.size v_cubes v_width v_height v_depth v_setCount v_roomIsShort v_sets o_6.1 x2 o_7 ho_7) (cwV 2 hts gX0_findSets_X0_moveAbout rfl rfl rfl ⟨rfl, nd_X0_moveAbout⟩ ⟨Nat.le_of_ble_eq_true rfl, Nat.le_of_ble_eq_true rfl⟩) ⟨fun a U g mk q => by obtain ⟨q0, q1, qP, qK, qD⟩ := q; exact ⟨q0, q1, qP, va_K.moved (u := U) (U := U.calling g mk a) (Vm.Alike.refl U.vm) qK, qD⟩, va_recv hK hPc (ci := 1) (q0 := 0) rfl rfl, fun U hU hW => ⟨rfl, by rw [hU], by rw [hU]; exact hPc, va_K.moved hW.alike hK, hDc.weaken (fun _ _ _ _ => trivial)⟩⟩ rfl rfl hl.1 rfl (lv_room (Nat.le_of_ble_eq_true rfl)) dX0_findSets_56 ⟨Nat.le_of_ble_eq_true rfl, Nat.le_of_ble_eq_true rfl⟩) hS (fun q _ h => hFc q h) hFc (fun u_7 t H1 locs ht hvm hw hB hz1 hk1 hS => ?_)
          subst u_7
          obtain ⟨hP1, hK1, hD1⟩ := hB
          rw [ht] at hP1
          obtain ⟨hP, hD⟩ := va_join (wr := []) (w1 := ws_X0_moveAbout cB cI cJ cZ a_this a_sets v_cubes v_width v_height v_depth o_7.1 o_7.2.1 o_7.2.2) hP hD [0, 1] [] rfl rfl (by decide) (by decide) hk1 hFc hP1 hD1
          generalize H1 = H at hP hS ⊢
          have hP : va_P (dC, dI) vwCl (ws_X0_findSets cB cI cJ cZ a_this a_sets v_cubes v_width v_height v_depth o_7.1 o_7.2.1 o_7.2.2) H := hP.sub [0, 1] rfl
          have hD : va_D A (ws_X0_findSets cB cI cJ cZ a_this a_sets v_cubes v_width v_height v_depth o_7.1 o_7.2.1 o_7.2.2) := hD.sub [0, 1] (by decide) rfl
          exact w_X0_findSets_59 C0 hK hax hk_12 ih o_7.1 o_7.2.1 o_7.2.2 x1 x2 x3 x4 hf _ _ hP hD hS ls (lv_sub hl [0, 1, 2, 3, 4] rfl)
set_option maxHeartbeats 4000000 in
set_option maxRecDepth 100000 in
theorem w_X0_findSets_86 {p : Program} {l : Launch} {e : Env} {s : State} {m : MethodId} {args : Array Value} {below : List Frame} {meth : Method} {c : Code} {A : Nat → Prop} {dC : Nat → ClassId} {dI : Nat → Nat → Nat} {cB cI cJ cZ : ClassId} {a_this a_sets : Nat} {v_cubes : Int32} {v_width : Int32} {v_height : Int32} {v_depth : Int32} {out : Int32 × Int32 × Int32 × (Nat → Int32)} (C0 : Cx RX0 cX0_findSets (some .int) 5 wsX0_findSets p s m args meth c A) (hK : va_K (dC, dI) vwCl (tysG cB cI cJ cZ) s) (hax : ax A s)  : g_X0_findSets_86 p l e s m args below meth c A dC dI cB cI cJ cZ a_this a_sets v_cubes v_width v_height v_depth out (f_X0_findSets_86 v_cubes v_width v_height v_depth ) := by
  obtain ⟨hx, hb, hr, hml, hown, hts, hlocks, hA⟩ := id C0
  intro v_setCount v_roomIsShort v_sets y0 hf H locs hP hD hS ls hl
  replace hf : ((some ((y0, (v_setCount, v_roomIsShort, v_sets)))) : Option (Int32 × Int32 × Int32 × (Nat → Int32))) = some out := hf
  have h9 := Option.some.inj hf
  have h8 := congrArg Prod.fst h9
  have h7 := congrArg Prod.snd h9
  exact W.iret (v := y0) hx hb hr (fun t ht hW => ⟨⟨y0, (v_setCount, v_roomIsShort, v_sets), rfl, ⟨h8, h7⟩, by rw [ht]; exact hP, va_K.moved hW.alike hK, hD⟩, hS.F ht⟩) hS.2.2 dX0_findSets_86
set_option maxHeartbeats 4000000 in
set_option maxRecDepth 100000 in
theorem w_X0_findSets_12 {p : Program} {l : Launch} {e : Env} {s : State} {m : MethodId} {args : Array Value} {below : List Frame} {meth : Method} {c : Code} {A : Nat → Prop} {dC : Nat → ClassId} {dI : Nat → Nat → Nat} {cB cI cJ cZ : ClassId} {a_this a_sets : Nat} {v_cubes : Int32} {v_width : Int32} {v_height : Int32} {v_depth : Int32} {out : Int32 × Int32 × Int32 × (Nat → Int32)} (C0 : Cx RX0 cX0_findSets (some .int) 5 wsX0_findSets p s m args meth c A) (hK : va_K (dC, dI) vwCl (tysG cB cI cJ cZ) s) (hax : ax A s)  : ∀ n : Nat, g_X0_findSets_12 p l e s m args below meth c A dC dI cB cI cJ cZ a_this a_sets v_cubes v_width v_height v_depth out (f_X0_findSets_12 v_cubes v_width v_height v_depth  n) := by
  obtain ⟨hx, hb, hr, hml, hown, hts, hlocks, hA⟩ := id C0
  intro n
  induction n with
  | zero =>
    intro v_setCount v_roomIsShort v_sets x1 x2 x3 hf H locs hP hD hS ls hl
    exact nomatch (show (none : Option (Int32 × Int32 × Int32 × (Nat → Int32))) = some out from hf)
  | succ n ih =>
    intro v_setCount v_roomIsShort v_sets x1 x2 x3 hf H locs hP hD hS ls hl
    replace hf : ((if (6 : Int32) ≤ x3 then
  (if v_roomIsShort = 0 then
  (f_X0_findSets_86 v_cubes v_width v_height v_depth v_setCount v_roomIsShort v_sets v_setCount)
  else
  (f_X0_findSets_86 v_cubes v_width v_height v_depth v_setCount v_roomIsShort v_sets (-1 : Int32)))
  else
  (f_X0_findSets_21 v_cubes v_width v_height v_depth (f_X0_findSets_12 v_cubes v_width v_height v_depth n) 1000000 v_setCount v_roomIsShort v_sets x1 x2 x3 (0 : Int32))) : Option (Int32 × Int32 × Int32 × (Nat → Int32))) = some out := hf
    refine lv_iload_n hx hb dX0_findSets_12 rfl (lv_at hl 3 rfl) ?_
    refine lv_bipush (v := 6) hx hb dX0_findSets_13 (by decide) ?_
    refine lv_icmp_ge (tgt := 71) hx hb dX0_findSets_15 (by decide) (fun c_8 => ?_) (fun c_8 => ?_)
    · replace hf := (if_pos c_8).symm.trans hf
      refine lv_aload_n hx hb dX0_findSets_71 rfl (lv_at hl 0 rfl) ?_
      refine va_get (D := (dC, dI)) (ci := 1) (v := .int v_roomIsShort) (C := RX0) (T := TX0) (N := 7) hx hb hts in_X0_findSets_X0 hown hK hP 0 rfl rfl 6 (by decide) (hts (.fieldLink RX0 37 "LinkedCovers$Piece" "roomIsShort" "Z") lk_X0_findSets_f37) (fun _ h9 => h9) rfl dX0_findSets_72 ?_
      refine lv_if_eq (tgt := 82) hx hb dX0_findSets_75 (by decide) (fun c_9 => ?_) (fun c_9 => ?_)
      · replace hf := (if_pos c_9).symm.trans hf
        refine lv_aload_n hx hb dX0_findSets_82 rfl (lv_at hl 0 rfl) ?_
        refine va_get (D := (dC, dI)) (ci := 1) (v := .int v_setCount) (C := RX0) (T := TX0) (N := 7) hx hb hts in_X0_findSets_X0 hown hK hP 0 rfl rfl 5 (by decide) (hts (.fieldLink RX0 34 "LinkedCovers$Piece" "setCount" "I") lk_X0_findSets_f34) (fun _ h9 => h9) rfl dX0_findSets_83 ?_
        exact w_X0_findSets_86 C0 hK hax v_setCount v_roomIsShort v_sets v_setCount hf _ _ hP hD hS ls (lv_sub hl [] rfl)
      · replace hf := (if_neg c_9).symm.trans hf
        refine lv_iconst (v := -1) hx hb dX0_findSets_78 (by decide) ?_
        refine lv_goto (tgt := 86) hx hb dX0_findSets_79 (by decide) ?_
        exact w_X0_findSets_86 C0 hK hax v_setCount v_roomIsShort v_sets (-1 : Int32) hf _ _ hP hD hS ls (lv_sub hl [] rfl)
    · replace hf := (if_neg c_8).symm.trans hf
      refine lv_iconst (v := 0) hx hb dX0_findSets_18 (by decide) ?_
      refine lv_istore (lv' := [(4, .int (0 : Int32)), (0, .ref a_this), (1, .int x1), (2, .int x2), (3, .int x3)]) hx hb dX0_findSets_19 hl (by decide) rfl (fun ls hl => ?_)
      exact w_X0_findSets_21 C0 hK hax ih 1000000 v_setCount v_roomIsShort v_sets x1 x2 x3 (0 : Int32) hf _ _ hP hD hS ls (lv_sub hl [1, 2, 3, 4, 0] rfl)
set_option maxHeartbeats 4000000 in
set_option maxRecDepth 100000 in
theorem w_X0_findSets_0 {p : Program} {l : Launch} {e : Env} {s : State} {m : MethodId} {args : Array Value} {below : List Frame} {meth : Method} {c : Code} {A : Nat → Prop} {dC : Nat → ClassId} {dI : Nat → Nat → Nat} {cB cI cJ cZ : ClassId} {a_this a_sets : Nat} {v_cubes : Int32} {v_width : Int32} {v_height : Int32} {v_depth : Int32} {out : Int32 × Int32 × Int32 × (Nat → Int32)} (C0 : Cx RX0 cX0_findSets (some .int) 5 wsX0_findSets p s m args meth c A) (hK : va_K (dC, dI) vwCl (tysG cB cI cJ cZ) s) (hax : ax A s)  : g_X0_findSets_0 p l e s m args below meth c A dC dI cB cI cJ cZ a_this a_sets v_cubes v_width v_height v_depth out (f_X0_findSets v_cubes v_width v_height v_depth ) := by
  obtain ⟨hx, hb, hr, hml, hown, hts, hlocks, hA⟩ := id C0
  intro v_setCount v_roomIsShort v_sets x1 x2 hf H locs hP hD hS ls hl
  replace hf : ((f_X0_findSets_12 v_cubes v_width v_height v_depth 1000000 (0 : Int32) (0 : Int32) v_sets x1 x2 (0 : Int32)) : Option (Int32 × Int32 × Int32 × (Nat → Int32))) = some out := hf
  refine lv_aload_n hx hb dX0_findSets_0 rfl (lv_at hl 0 rfl) ?_
  refine lv_iconst (v := 0) hx hb dX0_findSets_1 (by decide) ?_
  refine va_put (D := (dC, dI)) (ci := 1) (v := .int (0 : Int32)) (ty := .int) (C := RX0) (T := TX0) (N := 7) hx hb hts in_X0_findSets_X0 tyX0 tyX0_ok nmX0 hown hK hP hD hS 0 rfl rfl 5 (by decide) (hts (.fieldLink RX0 34 "LinkedCovers$Piece" "setCount" "I") lk_X0_findSets_f34) (fun _ h9 => h9) rfl (by decide +kernel) rfl rfl (Nat.le_of_ble_eq_true rfl) dX0_findSets_2 (fun H locs hP hD hS => ?_)
  have hP : va_P (dC, dI) vwCl (ws_X0_findSets cB cI cJ cZ a_this a_sets v_cubes v_width v_height v_depth (0 : Int32) v_roomIsShort v_sets) H := hP
  have hD : va_D A (ws_X0_findSets cB cI cJ cZ a_this a_sets v_cubes v_width v_height v_depth (0 : Int32) v_roomIsShort v_sets) := hD
  refine lv_aload_n hx hb dX0_findSets_5 rfl (lv_at hl 0 rfl) ?_
  refine lv_iconst (v := 0) hx hb dX0_findSets_6 (by decide) ?_
  refine va_put (D := (dC, dI)) (ci := 1) (v := .int (0 : Int32)) (ty := .boolean) (C := RX0) (T := TX0) (N := 7) hx hb hts in_X0_findSets_X0 tyX0 tyX0_ok nmX0 hown hK hP hD hS 0 rfl rfl 6 (by decide) (hts (.fieldLink RX0 37 "LinkedCovers$Piece" "roomIsShort" "Z") lk_X0_findSets_f37) (fun _ h9 => h9) rfl (by decide +kernel) rfl rfl (Nat.le_of_ble_eq_true rfl) dX0_findSets_7 (fun H locs hP hD hS => ?_)
  have hP : va_P (dC, dI) vwCl (ws_X0_findSets cB cI cJ cZ a_this a_sets v_cubes v_width v_height v_depth (0 : Int32) (0 : Int32) v_sets) H := hP
  have hD : va_D A (ws_X0_findSets cB cI cJ cZ a_this a_sets v_cubes v_width v_height v_depth (0 : Int32) (0 : Int32) v_sets) := hD
  refine lv_iconst (v := 0) hx hb dX0_findSets_10 (by decide) ?_
  refine lv_istore_n (lv' := [(3, .int (0 : Int32)), (0, .ref a_this), (1, .int x1), (2, .int x2)]) hx hb dX0_findSets_11 rfl hl (by decide) rfl (fun ls hl => ?_)
  exact w_X0_findSets_12 C0 hK hax 1000000 (0 : Int32) (0 : Int32) v_sets x1 x2 (0 : Int32) hf _ _ hP hD hS ls (lv_sub hl [1, 2, 3, 0] rfl)
theorem nd_X0_findSets : yX0_findSets.cls ≠ "java/lang/invoke/MethodHandle" ∧ yX0_findSets.cls ≠ "java/lang/invoke/VarHandle" ∧ (parseMethodDescriptor yX0_findSets.desc).map (fun d => d.parameters.length) = some 2 := by decide +kernel
set_option maxHeartbeats 4000000 in
set_option maxRecDepth 100000 in
theorem c_X0_findSets (l : Launch) (dC : Nat → ClassId) (dI : Nat → Nat → Nat) (cB cI cJ cZ : ClassId) (a_this a_sets : Nat) (sz : Nat) (v_cubes : Int32) (v_width : Int32) (v_height : Int32) (v_depth : Int32) (v_setCount : Int32) (v_roomIsShort : Int32) (v_sets : (Nat → Int32)) (x1 : Int32) (x2 : Int32) (out : Int32 × Int32 × Int32 × (Nat → Int32)) (hf : f_X0_findSets v_cubes v_width v_height v_depth v_setCount v_roomIsShort v_sets x1 x2 = some out) : Met l yX0_findSets wsX0_findSets rm_X0_findSets (va_Pc [.ref a_this, .int x1, .int x2] (fun U => U.heap.size = sz ∧ va_P (dC, dI) vwCl (ws_X0_findSets cB cI cJ cZ a_this a_sets v_cubes v_width v_height v_depth v_setCount v_roomIsShort v_sets) U.heap ∧ va_K (dC, dI) vwCl (tysG cB cI cJ cZ) U ∧ va_D (fun _ => True) (ws_X0_findSets cB cI cJ cZ a_this a_sets v_cubes v_width v_height v_depth v_setCount v_roomIsShort v_sets) ∧ ax (va_A (ws_X0_findSets cB cI cJ cZ a_this a_sets v_cubes v_width v_height v_depth v_setCount v_roomIsShort v_sets) sz) U)) (qc_X0_findSets (va_A (ws_X0_findSets cB cI cJ cZ a_this a_sets v_cubes v_width v_height v_depth v_setCount v_roomIsShort v_sets) sz) dC dI cB cI cJ cZ a_this a_sets v_cubes v_width v_height v_depth out) 0 0 (va_A (ws_X0_findSets cB cI cJ cZ a_this a_sets v_cubes v_width v_height v_depth v_setCount v_roomIsShort v_sets) sz) := by
  refine Met.ofW (cc := cX0_findSets) (maxL := 5) (ret := (some .int)) (by decide) rfl ?_
  intro p e s m args below meth c s₁ B hml hv
  obtain ⟨rfl, hsz, hP, hK, hD0, hax⟩ := hv
  subst hsz
  have hD := hD0.self (sz := s.heap.size)
  generalize hAe : va_A (ws_X0_findSets cB cI cJ cZ a_this a_sets v_cubes v_width v_height v_depth v_setCount v_roomIsShort v_sets) s.heap.size = A at hD hax ⊢
  have hA : ∀ q : Nat, s.heap.size ≤ q → A q := fun q h => by rw [← hAe]; exact Or.inr h
  have hl := lv_entry ([.ref a_this, .int x1, .int x2]) (n := 5) (Nat.le_of_ble_eq_true rfl)
  rw [lg_entry_eq]
  generalize (lg_sl ([.ref a_this, .int x1, .int x2]) ++ List.replicate (5 - (lg_sl ([.ref a_this, .int x1, .int x2])).length) Slot.unset).toArray = ls at hl ⊢
  have hl : lv_has ls 5 [(0, .ref a_this), (1, .int x1), (2, .int x2)] := hl
  exact w_X0_findSets_0 ⟨B.exec, B.bytes, B.returns, hml, findClass_of_methodNamed B.named, atoms_spec (ws := wsX0_findSets) B.pre, B.notSynchronized, hA⟩ hK hax v_setCount v_roomIsShort v_sets x1 x2 hf _ _ hP hD va_S.rf ls (lv_sub hl [0, 1, 2] rfl)
