-- X5.turned(IIIII)I: 60 instructions
abbrev ws_X5_turned (cB cI cJ cZ : ClassId)  : va_W := []
abbrev rm_X5_turned : Room := { frames := 0, cells := 0, slots := 0, locals := 0 }
def f_X5_turned_93   (x8 : Int32) : Option (Int32 × Unit) :=
  some ((x8, ()))
def f_X5_turned_91   (y0 : Int32) : Option (Int32 × Unit) :=
  f_X5_turned_93 y0
def f_X5_turned_69   (x3 : Int32) (x4 : Int32) (x7 : Int32) (x8 : Int32) : Option (Int32 × Unit) :=
  if (x3 / (2 : Int32)) = x4 then
  (if (x3 - x3 / (2 : Int32) * (2 : Int32)) = 0 then
  (f_X5_turned_91 x7)
  else
  (f_X5_turned_91 (-x7)))
  else
  (f_X5_turned_93 x8)
def f_X5_turned_67   (x3 : Int32) (x4 : Int32) (x7 : Int32) (y0 : Int32) : Option (Int32 × Unit) :=
  f_X5_turned_69 x3 x4 x7 y0
def f_X5_turned_45   (x2 : Int32) (x3 : Int32) (x4 : Int32) (x6 : Int32) (x7 : Int32) (x8 : Int32) : Option (Int32 × Unit) :=
  if (x2 / (2 : Int32)) = x4 then
  (if (x2 - x2 / (2 : Int32) * (2 : Int32)) = 0 then
  (f_X5_turned_67 x3 x4 x7 x6)
  else
  (f_X5_turned_67 x3 x4 x7 (-x6)))
  else
  (f_X5_turned_69 x3 x4 x7 x8)
def f_X5_turned_43   (x2 : Int32) (x3 : Int32) (x4 : Int32) (x6 : Int32) (x7 : Int32) (y0 : Int32) : Option (Int32 × Unit) :=
  f_X5_turned_45 x2 x3 x4 x6 x7 y0
def f_X5_turned   (x0 : Int32) (x1 : Int32) (x2 : Int32) (x3 : Int32) (x4 : Int32) : Option (Int32 × Unit) :=
  if (x1 / (2 : Int32)) = x4 then
  (if (x1 - x1 / (2 : Int32) * (2 : Int32)) = 0 then
  (f_X5_turned_43 x2 x3 x4 ((x0 / (3 : Int32)) - (x0 / (3 : Int32)) / (3 : Int32) * (3 : Int32)) (x0 / (9 : Int32)) (x0 - x0 / (3 : Int32) * (3 : Int32)))
  else
  (f_X5_turned_43 x2 x3 x4 ((x0 / (3 : Int32)) - (x0 / (3 : Int32)) / (3 : Int32) * (3 : Int32)) (x0 / (9 : Int32)) (-(x0 - x0 / (3 : Int32) * (3 : Int32)))))
  else
  (f_X5_turned_45 x2 x3 x4 ((x0 / (3 : Int32)) - (x0 / (3 : Int32)) / (3 : Int32) * (3 : Int32)) (x0 / (9 : Int32)) (0 : Int32))
abbrev qc_X5_turned (A : Nat → Prop) (dC : Nat → ClassId) (dI : Nat → Nat → Nat) (cB cI cJ cZ : ClassId)  (out : Int32 × Unit) : Array Value → State → Outcome → State → Prop := va_Qi (fun (r : Int32) (u : Unit) => r = out.1 ∧ u = out.2) (fun (u : Unit) (t : State) => va_P (dC, dI) vwCl (ws_X5_turned cB cI cJ cZ  ) t.heap ∧ va_K (dC, dI) vwCl (tysG cB cI cJ cZ) t ∧ va_D A (ws_X5_turned cB cI cJ cZ  )) A
abbrev g_X5_turned_93 (p : Program) (l : Launch) (e : Env) (s : State) (m : MethodId) (args : Array Value) (below : List Frame) (meth : Method) (c : Code) (A : Nat → Prop) (dC : Nat → ClassId) (dI : Nat → Nat → Nat) (cB cI cJ cZ : ClassId)  (out : Int32 × Unit) (k : Int32 → Option (Int32 × Unit)) : Prop := ∀ (x8 : Int32), k x8 = some out → ∀ (H : Heap) (locs : List Loc), va_P (dC, dI) vwCl (ws_X5_turned cB cI cJ cZ  ) H → va_D A (ws_X5_turned cB cI cJ cZ  ) → va_S A s.heap H locs → ∀ (ls : Array Slot), lv_has ls 9 [(8, .int x8)] → W p l e (headSpec wsX5_turned rm_X5_turned).room s m args below meth c H locs 0 0 (MQ below (qc_X5_turned A dC dI cB cI cJ cZ   out) args s 0 0 A) (F0 m 93 ls [])
abbrev g_X5_turned_91 (p : Program) (l : Launch) (e : Env) (s : State) (m : MethodId) (args : Array Value) (below : List Frame) (meth : Method) (c : Code) (A : Nat → Prop) (dC : Nat → ClassId) (dI : Nat → Nat → Nat) (cB cI cJ cZ : ClassId)  (out : Int32 × Unit) (k : Int32 → Option (Int32 × Unit)) : Prop := ∀ (y0 : Int32), k y0 = some out → ∀ (H : Heap) (locs : List Loc), va_P (dC, dI) vwCl (ws_X5_turned cB cI cJ cZ  ) H → va_D A (ws_X5_turned cB cI cJ cZ  ) → va_S A s.heap H locs → ∀ (ls : Array Slot), lv_has ls 9 [] → W p l e (headSpec wsX5_turned rm_X5_turned).room s m args below meth c H locs 0 0 (MQ below (qc_X5_turned A dC dI cB cI cJ cZ   out) args s 0 0 A) (F0 m 91 ls [.int y0])
abbrev g_X5_turned_69 (p : Program) (l : Launch) (e : Env) (s : State) (m : MethodId) (args : Array Value) (below : List Frame) (meth : Method) (c : Code) (A : Nat → Prop) (dC : Nat → ClassId) (dI : Nat → Nat → Nat) (cB cI cJ cZ : ClassId)  (out : Int32 × Unit) (k : Int32 → Int32 → Int32 → Int32 → Option (Int32 × Unit)) : Prop := ∀ (x3 : Int32) (x4 : Int32) (x7 : Int32) (x8 : Int32), k x3 x4 x7 x8 = some out → ∀ (H : Heap) (locs : List Loc), va_P (dC, dI) vwCl (ws_X5_turned cB cI cJ cZ  ) H → va_D A (ws_X5_turned cB cI cJ cZ  ) → va_S A s.heap H locs → ∀ (ls : Array Slot), lv_has ls 9 [(3, .int x3), (4, .int x4), (7, .int x7), (8, .int x8)] → W p l e (headSpec wsX5_turned rm_X5_turned).room s m args below meth c H locs 0 0 (MQ below (qc_X5_turned A dC dI cB cI cJ cZ   out) args s 0 0 A) (F0 m 69 ls [])
abbrev g_X5_turned_67 (p : Program) (l : Launch) (e : Env) (s : State) (m : MethodId) (args : Array Value) (below : List Frame) (meth : Method) (c : Code) (A : Nat → Prop) (dC : Nat → ClassId) (dI : Nat → Nat → Nat) (cB cI cJ cZ : ClassId)  (out : Int32 × Unit) (k : Int32 → Int32 → Int32 → Int32 → Option (Int32 × Unit)) : Prop := ∀ (x3 : Int32) (x4 : Int32) (x7 : Int32) (y0 : Int32), k x3 x4 x7 y0 = some out → ∀ (H : Heap) (locs : List Loc), va_P (dC, dI) vwCl (ws_X5_turned cB cI cJ cZ  ) H → va_D A (ws_X5_turned cB cI cJ cZ  ) → va_S A s.heap H locs → ∀ (ls : Array Slot), lv_has ls 9 [(3, .int x3), (4, .int x4), (7, .int x7)] → W p l e (headSpec wsX5_turned rm_X5_turned).room s m args below meth c H locs 0 0 (MQ below (qc_X5_turned A dC dI cB cI cJ cZ   out) args s 0 0 A) (F0 m 67 ls [.int y0])
abbrev g_X5_turned_45 (p : Program) (l : Launch) (e : Env) (s : State) (m : MethodId) (args : Array Value) (below : List Frame) (meth : Method) (c : Code) (A : Nat → Prop) (dC : Nat → ClassId) (dI : Nat → Nat → Nat) (cB cI cJ cZ : ClassId)  (out : Int32 × Unit) (k : Int32 → Int32 → Int32 → Int32 → Int32 → Int32 → Option (Int32 × Unit)) : Prop := ∀ (x2 : Int32) (x3 : Int32) (x4 : Int32) (x6 : Int32) (x7 : Int32) (x8 : Int32), k x2 x3 x4 x6 x7 x8 = some out → ∀ (H : Heap) (locs : List Loc), va_P (dC, dI) vwCl (ws_X5_turned cB cI cJ cZ  ) H → va_D A (ws_X5_turned cB cI cJ cZ  ) → va_S A s.heap H locs → ∀ (ls : Array Slot), lv_has ls 9 [(2, .int x2), (3, .int x3), (4, .int x4), (6, .int x6), (7, .int x7), (8, .int x8)] → W p l e (headSpec wsX5_turned rm_X5_turned).room s m args below meth c H locs 0 0 (MQ below (qc_X5_turned A dC dI cB cI cJ cZ   out) args s 0 0 A) (F0 m 45 ls [])
abbrev g_X5_turned_43 (p : Program) (l : Launch) (e : Env) (s : State) (m : MethodId) (args : Array Value) (below : List Frame) (meth : Method) (c : Code) (A : Nat → Prop) (dC : Nat → ClassId) (dI : Nat → Nat → Nat) (cB cI cJ cZ : ClassId)  (out : Int32 × Unit) (k : Int32 → Int32 → Int32 → Int32 → Int32 → Int32 → Option (Int32 × Unit)) : Prop := ∀ (x2 : Int32) (x3 : Int32) (x4 : Int32) (x6 : Int32) (x7 : Int32) (y0 : Int32), k x2 x3 x4 x6 x7 y0 = some out → ∀ (H : Heap) (locs : List Loc), va_P (dC, dI) vwCl (ws_X5_turned cB cI cJ cZ  ) H → va_D A (ws_X5_turned cB cI cJ cZ  ) → va_S A s.heap H locs → ∀ (ls : Array Slot), lv_has ls 9 [(2, .int x2), (3, .int x3), (4, .int x4), (6, .int x6), (7, .int x7)] → W p l e (headSpec wsX5_turned rm_X5_turned).room s m args below meth c H locs 0 0 (MQ below (qc_X5_turned A dC dI cB cI cJ cZ   out) args s 0 0 A) (F0 m 43 ls [.int y0])
abbrev g_X5_turned_0 (p : Program) (l : Launch) (e : Env) (s : State) (m : MethodId) (args : Array Value) (below : List Frame) (meth : Method) (c : Code) (A : Nat → Prop) (dC : Nat → ClassId) (dI : Nat → Nat → Nat) (cB cI cJ cZ : ClassId)  (out : Int32 × Unit) (k : Int32 → Int32 → Int32 → Int32 → Int32 → Option (Int32 × Unit)) : Prop := ∀ (x0 : Int32) (x1 : Int32) (x2 : Int32) (x3 : Int32) (x4 : Int32), k x0 x1 x2 x3 x4 = some out → ∀ (H : Heap) (locs : List Loc), va_P (dC, dI) vwCl (ws_X5_turned cB cI cJ cZ  ) H → va_D A (ws_X5_turned cB cI cJ cZ  ) → va_S A s.heap H locs → ∀ (ls : Array Slot), lv_has ls 9 [(0, .int x0), (1, .int x1), (2, .int x2), (3, .int x3), (4, .int x4)] → W p l e (headSpec wsX5_turned rm_X5_turned).room s m args below meth c H locs 0 0 (MQ below (qc_X5_turned A dC dI cB cI cJ cZ   out) args s 0 0 A) (F0 m 0 ls [])
set_option maxHeartbeats 4000000 in
set_option maxRecDepth 100000 in
theorem w_X5_turned_93 {p : Program} {l : Launch} {e : Env} {s : State} {m : MethodId} {args : Array Value} {below : List Frame} {meth : Method} {c : Code} {A : Nat → Prop} {dC : Nat → ClassId} {dI : Nat → Nat → Nat} {cB cI cJ cZ : ClassId}  {out : Int32 × Unit} (C0 : Cx RX5 cX5_turned (some .int) 9 wsX5_turned p s m args meth c A) (hK : va_K (dC, dI) vwCl (tysG cB cI cJ cZ) s)  : g_X5_turned_93 p l e s m args below meth c A dC dI cB cI cJ cZ   out (f_X5_turned_93  ) := by
  obtain ⟨hx, hb, hr, hml, hown, hts, hlocks, hA⟩ := id C0
  intro x8 hf H locs hP hD hS ls hl
  replace hf : ((some ((x8, ()))) : Option (Int32 × Unit)) = some out := hf
  refine lv_iload hx hb dX5_turned_93 (lv_at hl 0 rfl) ?_
  have h9 := Option.some.inj hf
  have h8 := congrArg Prod.fst h9
  have h7 := congrArg Prod.snd h9
  exact W.iret (v := x8) hx hb hr (fun t ht hW => ⟨⟨x8, (), rfl, ⟨h8, h7⟩, by rw [ht]; exact hP, va_K.moved hW.alike hK, hD⟩, hS.F ht⟩) hS.2.2 dX5_turned_95
set_option maxHeartbeats 4000000 in
set_option maxRecDepth 100000 in
theorem w_X5_turned_91 {p : Program} {l : Launch} {e : Env} {s : State} {m : MethodId} {args : Array Value} {below : List Frame} {meth : Method} {c : Code} {A : Nat → Prop} {dC : Nat → ClassId} {dI : Nat → Nat → Nat} {cB cI cJ cZ : ClassId}  {out : Int32 × Unit} (C0 : Cx RX5 cX5_turned (some .int) 9 wsX5_turned p s m args meth c A) (hK : va_K (dC, dI) vwCl (tysG cB cI cJ cZ) s)  : g_X5_turned_91 p l e s m args below meth c A dC dI cB cI cJ cZ   out (f_X5_turned_91  ) := by
  obtain ⟨hx, hb, hr, hml, hown, hts, hlocks, hA⟩ := id C0
  intro y0 hf H locs hP hD hS ls hl
  replace hf : ((f_X5_turned_93 y0) : Option (Int32 × Unit)) = some out := hf
  refine lv_istore (lv' := [(8, .int y0)]) hx hb dX5_turned_91 hl (by decide) rfl (fun ls hl => ?_)
  exact w_X5_turned_93 C0 hK y0 hf _ _ hP hD hS ls (lv_sub hl [0] rfl)
set_option maxHeartbeats 4000000 in
set_option maxRecDepth 100000 in
theorem w_X5_turned_69 {p : Program} {l : Launch} {e : Env} {s : State} {m : MethodId} {args : Array Value} {below : List Frame} {meth : Method} {c : Code} {A : Nat → Prop} {dC : Nat → ClassId} {dI : Nat → Nat → Nat} {cB cI cJ cZ : ClassId}  {out : Int32 × Unit} (C0 : Cx RX5 cX5_turned (some .int) 9 wsX5_turned p s m args meth c A) (hK : va_K (dC, dI) vwCl (tysG cB cI cJ cZ) s)  : g_X5_turned_69 p l e s m args below meth c A dC dI cB cI cJ cZ   out (f_X5_turned_69  ) := by
  obtain ⟨hx, hb, hr, hml, hown, hts, hlocks, hA⟩ := id C0
  intro x3 x4 x7 x8 hf H locs hP hD hS ls hl
  replace hf : ((if (x3 / (2 : Int32)) = x4 then
  (if (x3 - x3 / (2 : Int32) * (2 : Int32)) = 0 then
  (f_X5_turned_91 x7)
  else
  (f_X5_turned_91 (-x7)))
  else
  (f_X5_turned_93 x8)) : Option (Int32 × Unit)) = some out := hf
  refine lv_iload_n hx hb dX5_turned_69 rfl (lv_at hl 0 rfl) ?_
  refine lv_iconst (v := 2) hx hb dX5_turned_70 (by decide) ?_
  refine lv_idiv hx hb dX5_turned_71 (by decide) ?_
  refine lv_iload hx hb dX5_turned_72 (lv_at hl 1 rfl) ?_
  refine lv_icmp_ne (tgt := 93) hx hb dX5_turned_74 (by decide) (fun c_1 => ?_) (fun c_1 => ?_)
  · replace hf := (if_neg c_1).symm.trans hf
    exact w_X5_turned_93 C0 hK x8 hf _ _ hP hD hS ls (lv_sub hl [3] rfl)
  · replace hf := (if_pos c_1).symm.trans hf
    refine lv_iload_n hx hb dX5_turned_77 rfl (lv_at hl 0 rfl) ?_
    refine lv_iconst (v := 2) hx hb dX5_turned_78 (by decide) ?_
    refine lv_irem hx hb dX5_turned_79 (by decide) ?_
    refine lv_if_ne (tgt := 88) hx hb dX5_turned_80 (by decide) (fun c_2 => ?_) (fun c_2 => ?_)
    · replace hf := (if_neg c_2).symm.trans hf
      refine lv_iload hx hb dX5_turned_88 (lv_at hl 2 rfl) ?_
      refine lv_ineg hx hb dX5_turned_90 ?_
      exact w_X5_turned_91 C0 hK (-x7) hf _ _ hP hD hS ls (lv_sub hl [] rfl)
    · replace hf := (if_pos c_2).symm.trans hf
      refine lv_iload hx hb dX5_turned_83 (lv_at hl 2 rfl) ?_
      refine lv_goto (tgt := 91) hx hb dX5_turned_85 (by decide) ?_
      exact w_X5_turned_91 C0 hK x7 hf _ _ hP hD hS ls (lv_sub hl [] rfl)
set_option maxHeartbeats 4000000 in
set_option maxRecDepth 100000 in
theorem w_X5_turned_67 {p : Program} {l : Launch} {e : Env} {s : State} {m : MethodId} {args : Array Value} {below : List Frame} {meth : Method} {c : Code} {A : Nat → Prop} {dC : Nat → ClassId} {dI : Nat → Nat → Nat} {cB cI cJ cZ : ClassId}  {out : Int32 × Unit} (C0 : Cx RX5 cX5_turned (some .int) 9 wsX5_turned p s m args meth c A) (hK : va_K (dC, dI) vwCl (tysG cB cI cJ cZ) s)  : g_X5_turned_67 p l e s m args below meth c A dC dI cB cI cJ cZ   out (f_X5_turned_67  ) := by
  obtain ⟨hx, hb, hr, hml, hown, hts, hlocks, hA⟩ := id C0
  intro x3 x4 x7 y0 hf H locs hP hD hS ls hl
  replace hf : ((f_X5_turned_69 x3 x4 x7 y0) : Option (Int32 × Unit)) = some out := hf
  refine lv_istore (lv' := [(8, .int y0), (3, .int x3), (4, .int x4), (7, .int x7)]) hx hb dX5_turned_67 hl (by decide) rfl (fun ls hl => ?_)
  exact w_X5_turned_69 C0 hK x3 x4 x7 y0 hf _ _ hP hD hS ls (lv_sub hl [1, 2, 3, 0] rfl)
set_option maxHeartbeats 4000000 in
set_option maxRecDepth 100000 in
theorem w_X5_turned_45 {p : Program} {l : Launch} {e : Env} {s : State} {m : MethodId} {args : Array Value} {below : List Frame} {meth : Method} {c : Code} {A : Nat → Prop} {dC : Nat → ClassId} {dI : Nat → Nat → Nat} {cB cI cJ cZ : ClassId}  {out : Int32 × Unit} (C0 : Cx RX5 cX5_turned (some .int) 9 wsX5_turned p s m args meth c A) (hK : va_K (dC, dI) vwCl (tysG cB cI cJ cZ) s)  : g_X5_turned_45 p l e s m args below meth c A dC dI cB cI cJ cZ   out (f_X5_turned_45  ) := by
  obtain ⟨hx, hb, hr, hml, hown, hts, hlocks, hA⟩ := id C0
  intro x2 x3 x4 x6 x7 x8 hf H locs hP hD hS ls hl
  replace hf : ((if (x2 / (2 : Int32)) = x4 then
  (if (x2 - x2 / (2 : Int32) * (2 : Int32)) = 0 then
  (f_X5_turned_67 x3 x4 x7 x6)
  else
  (f_X5_turned_67 x3 x4 x7 (-x6)))
  else
  (f_X5_turned_69 x3 x4 x7 x8)) : Option (Int32 × Unit)) = some out := hf
  refine lv_iload_n hx hb dX5_turned_45 rfl (lv_at hl 0 rfl) ?_
  refine lv_iconst (v := 2) hx hb dX5_turned_46 (by decide) ?_
  refine lv_idiv hx hb dX5_turned_47 (by decide) ?_
  refine lv_iload hx hb dX5_turned_48 (lv_at hl 2 rfl) ?_
  refine lv_icmp_ne (tgt := 69) hx hb dX5_turned_50 (by decide) (fun c_3 => ?_) (fun c_3 => ?_)
  · replace hf := (if_neg c_3).symm.trans hf
    exact w_X5_turned_69 C0 hK x3 x4 x7 x8 hf _ _ hP hD hS ls (lv_sub hl [1, 2, 4, 5] rfl)
  · replace hf := (if_pos c_3).symm.trans hf
    refine lv_iload_n hx hb dX5_turned_53 rfl (lv_at hl 0 rfl) ?_
    refine lv_iconst (v := 2) hx hb dX5_turned_54 (by decide) ?_
    refine lv_irem hx hb dX5_turned_55 (by decide) ?_
    refine lv_if_ne (tgt := 64) hx hb dX5_turned_56 (by decide) (fun c_4 => ?_) (fun c_4 => ?_)
    · replace hf := (if_neg c_4).symm.trans hf
      refine lv_iload hx hb dX5_turned_64 (lv_at hl 3 rfl) ?_
      refine lv_ineg hx hb dX5_turned_66 ?_
      exact w_X5_turned_67 C0 hK x3 x4 x7 (-x6) hf _ _ hP hD hS ls (lv_sub hl [1, 2, 4] rfl)
    · replace hf := (if_pos c_4).symm.trans hf
      refine lv_iload hx hb dX5_turned_59 (lv_at hl 3 rfl) ?_
      refine lv_goto (tgt := 67) hx hb dX5_turned_61 (by decide) ?_
      exact w_X5_turned_67 C0 hK x3 x4 x7 x6 hf _ _ hP hD hS ls (lv_sub hl [1, 2, 4] rfl)
set_option maxHeartbeats 4000000 in
set_option maxRecDepth 100000 in
theorem w_X5_turned_43 {p : Program} {l : Launch} {e : Env} {s : State} {m : MethodId} {args : Array Value} {below : List Frame} {meth : Method} {c : Code} {A : Nat → Prop} {dC : Nat → ClassId} {dI : Nat → Nat → Nat} {cB cI cJ cZ : ClassId}  {out : Int32 × Unit} (C0 : Cx RX5 cX5_turned (some .int) 9 wsX5_turned p s m args meth c A) (hK : va_K (dC, dI) vwCl (tysG cB cI cJ cZ) s)  : g_X5_turned_43 p l e s m args below meth c A dC dI cB cI cJ cZ   out (f_X5_turned_43  ) := by
  obtain ⟨hx, hb, hr, hml, hown, hts, hlocks, hA⟩ := id C0
  intro x2 x3 x4 x6 x7 y0 hf H locs hP hD hS ls hl
  replace hf : ((f_X5_turned_45 x2 x3 x4 x6 x7 y0) : Option (Int32 × Unit)) = some out := hf
  refine lv_istore (lv' := [(8, .int y0), (2, .int x2), (3, .int x3), (4, .int x4), (6, .int x6), (7, .int x7)]) hx hb dX5_turned_43 hl (by decide) rfl (fun ls hl => ?_)
  exact w_X5_turned_45 C0 hK x2 x3 x4 x6 x7 y0 hf _ _ hP hD hS ls (lv_sub hl [1, 2, 3, 4, 5, 0] rfl)
set_option maxHeartbeats 4000000 in
set_option maxRecDepth 100000 in
theorem w_X5_turned_0 {p : Program} {l : Launch} {e : Env} {s : State} {m : MethodId} {args : Array Value} {below : List Frame} {meth : Method} {c : Code} {A : Nat → Prop} {dC : Nat → ClassId} {dI : Nat → Nat → Nat} {cB cI cJ cZ : ClassId}  {out : Int32 × Unit} (C0 : Cx RX5 cX5_turned (some .int) 9 wsX5_turned p s m args meth c A) (hK : va_K (dC, dI) vwCl (tysG cB cI cJ cZ) s)  : g_X5_turned_0 p l e s m args below meth c A dC dI cB cI cJ cZ   out (f_X5_turned  ) := by
  obtain ⟨hx, hb, hr, hml, hown, hts, hlocks, hA⟩ := id C0
  intro x0 x1 x2 x3 x4 hf H locs hP hD hS ls hl
  replace hf : ((if (x1 / (2 : Int32)) = x4 then
  (if (x1 - x1 / (2 : Int32) * (2 : Int32)) = 0 then
  (f_X5_turned_43 x2 x3 x4 ((x0 / (3 : Int32)) - (x0 / (3 : Int32)) / (3 : Int32) * (3 : Int32)) (x0 / (9 : Int32)) (x0 - x0 / (3 : Int32) * (3 : Int32)))
  else
  (f_X5_turned_43 x2 x3 x4 ((x0 / (3 : Int32)) - (x0 / (3 : Int32)) / (3 : Int32) * (3 : Int32)) (x0 / (9 : Int32)) (-(x0 - x0 / (3 : Int32) * (3 : Int32)))))
  else
  (f_X5_turned_45 x2 x3 x4 ((x0 / (3 : Int32)) - (x0 / (3 : Int32)) / (3 : Int32) * (3 : Int32)) (x0 / (9 : Int32)) (0 : Int32))) : Option (Int32 × Unit)) = some out := hf
  refine lv_iload_n hx hb dX5_turned_0 rfl (lv_at hl 0 rfl) ?_
  refine lv_iconst (v := 3) hx hb dX5_turned_1 (by decide) ?_
  refine lv_irem hx hb dX5_turned_2 (by decide) ?_
  refine lv_istore (lv' := [(5, .int (x0 - x0 / (3 : Int32) * (3 : Int32))), (0, .int x0), (1, .int x1), (2, .int x2), (3, .int x3), (4, .int x4)]) hx hb dX5_turned_3 hl (by decide) rfl (fun ls hl => ?_)
  refine lv_iload_n hx hb dX5_turned_5 rfl (lv_at hl 1 rfl) ?_
  refine lv_iconst (v := 3) hx hb dX5_turned_6 (by decide) ?_
  refine lv_idiv hx hb dX5_turned_7 (by decide) ?_
  refine lv_iconst (v := 3) hx hb dX5_turned_8 (by decide) ?_
  refine lv_irem hx hb dX5_turned_9 (by decide) ?_
  refine lv_istore (lv' := [(6, .int ((x0 / (3 : Int32)) - (x0 / (3 : Int32)) / (3 : Int32) * (3 : Int32))), (5, .int (x0 - x0 / (3 : Int32) * (3 : Int32))), (0, .int x0), (1, .int x1), (2, .int x2), (3, .int x3), (4, .int x4)]) hx hb dX5_turned_10 hl (by decide) rfl (fun ls hl => ?_)
  refine lv_iload_n hx hb dX5_turned_12 rfl (lv_at hl 2 rfl) ?_
  refine lv_bipush (v := 9) hx hb dX5_turned_13 (by decide) ?_
  refine lv_idiv hx hb dX5_turned_15 (by decide) ?_
  refine lv_istore (lv' := [(7, .int (x0 / (9 : Int32))), (6, .int ((x0 / (3 : Int32)) - (x0 / (3 : Int32)) / (3 : Int32) * (3 : Int32))), (5, .int (x0 - x0 / (3 : Int32) * (3 : Int32))), (0, .int x0), (1, .int x1), (2, .int x2), (3, .int x3), (4, .int x4)]) hx hb dX5_turned_16 hl (by decide) rfl (fun ls hl => ?_)
  refine lv_iconst (v := 0) hx hb dX5_turned_18 (by decide) ?_
  refine lv_istore (lv' := [(8, .int (0 : Int32)), (7, .int (x0 / (9 : Int32))), (6, .int ((x0 / (3 : Int32)) - (x0 / (3 : Int32)) / (3 : Int32) * (3 : Int32))), (5, .int (x0 - x0 / (3 : Int32) * (3 : Int32))), (0, .int x0), (1, .int x1), (2, .int x2), (3, .int x3), (4, .int x4)]) hx hb dX5_turned_19 hl (by decide) rfl (fun ls hl => ?_)
  refine lv_iload_n hx hb dX5_turned_21 rfl (lv_at hl 5 rfl) ?_
  refine lv_iconst (v := 2) hx hb dX5_turned_22 (by decide) ?_
  refine lv_idiv hx hb dX5_turned_23 (by decide) ?_
  refine lv_iload hx hb dX5_turned_24 (lv_at hl 8 rfl) ?_
  refine lv_icmp_ne (tgt := 45) hx hb dX5_turned_26 (by decide) (fun c_5 => ?_) (fun c_5 => ?_)
  · replace hf := (if_neg c_5).symm.trans hf
    exact w_X5_turned_45 C0 hK x2 x3 x4 ((x0 / (3 : Int32)) - (x0 / (3 : Int32)) / (3 : Int32) * (3 : Int32)) (x0 / (9 : Int32)) (0 : Int32) hf _ _ hP hD hS ls (lv_sub hl [6, 7, 8, 2, 1, 0] rfl)
  · replace hf := (if_pos c_5).symm.trans hf
    refine lv_iload_n hx hb dX5_turned_29 rfl (lv_at hl 5 rfl) ?_
    refine lv_iconst (v := 2) hx hb dX5_turned_30 (by decide) ?_
    refine lv_irem hx hb dX5_turned_31 (by decide) ?_
    refine lv_if_ne (tgt := 40) hx hb dX5_turned_32 (by decide) (fun c_6 => ?_) (fun c_6 => ?_)
    · replace hf := (if_neg c_6).symm.trans hf
      refine lv_iload hx hb dX5_turned_40 (lv_at hl 3 rfl) ?_
      refine lv_ineg hx hb dX5_turned_42 ?_
      exact w_X5_turned_43 C0 hK x2 x3 x4 ((x0 / (3 : Int32)) - (x0 / (3 : Int32)) / (3 : Int32) * (3 : Int32)) (x0 / (9 : Int32)) (-(x0 - x0 / (3 : Int32) * (3 : Int32))) hf _ _ hP hD hS ls (lv_sub hl [6, 7, 8, 2, 1] rfl)
    · replace hf := (if_pos c_6).symm.trans hf
      refine lv_iload hx hb dX5_turned_35 (lv_at hl 3 rfl) ?_
      refine lv_goto (tgt := 43) hx hb dX5_turned_37 (by decide) ?_
      exact w_X5_turned_43 C0 hK x2 x3 x4 ((x0 / (3 : Int32)) - (x0 / (3 : Int32)) / (3 : Int32) * (3 : Int32)) (x0 / (9 : Int32)) (x0 - x0 / (3 : Int32) * (3 : Int32)) hf _ _ hP hD hS ls (lv_sub hl [6, 7, 8, 2, 1] rfl)
theorem nd_X5_turned : yX5_turned.cls ≠ "java/lang/invoke/MethodHandle" ∧ yX5_turned.cls ≠ "java/lang/invoke/VarHandle" ∧ (parseMethodDescriptor yX5_turned.desc).map (fun d => d.parameters.length) = some 5 := by decide +kernel
set_option maxHeartbeats 4000000 in
set_option maxRecDepth 100000 in
theorem c_X5_turned (l : Launch) (dC : Nat → ClassId) (dI : Nat → Nat → Nat) (cB cI cJ cZ : ClassId) (sz : Nat)  (x0 : Int32) (x1 : Int32) (x2 : Int32) (x3 : Int32) (x4 : Int32) (out : Int32 × Unit) (hf : f_X5_turned  x0 x1 x2 x3 x4 = some out) : Met l yX5_turned wsX5_turned rm_X5_turned (va_Pc [.int x0, .int x1, .int x2, .int x3, .int x4] (fun U => U.heap.size = sz ∧ va_P (dC, dI) vwCl (ws_X5_turned cB cI cJ cZ  ) U.heap ∧ va_K (dC, dI) vwCl (tysG cB cI cJ cZ) U ∧ va_D (fun _ => True) (ws_X5_turned cB cI cJ cZ  ))) (qc_X5_turned (va_A (ws_X5_turned cB cI cJ cZ  ) sz) dC dI cB cI cJ cZ   out) 0 0 (va_A (ws_X5_turned cB cI cJ cZ  ) sz) := by
  refine Met.ofW (cc := cX5_turned) (maxL := 9) (ret := (some .int)) (by decide) rfl ?_
  intro p e s m args below meth c s₁ B hml hv
  obtain ⟨rfl, hsz, hP, hK, hD0⟩ := hv
  subst hsz
  have hD := hD0.self (sz := s.heap.size)
  generalize hAe : va_A (ws_X5_turned cB cI cJ cZ  ) s.heap.size = A at hD ⊢
  have hA : ∀ q : Nat, s.heap.size ≤ q → A q := fun q h => by rw [← hAe]; exact Or.inr h
  have hl := lv_entry ([.int x0, .int x1, .int x2, .int x3, .int x4]) (n := 9) (Nat.le_of_ble_eq_true rfl)
  rw [lg_entry_eq]
  generalize (lg_sl ([.int x0, .int x1, .int x2, .int x3, .int x4]) ++ List.replicate (9 - (lg_sl ([.int x0, .int x1, .int x2, .int x3, .int x4])).length) Slot.unset).toArray = ls at hl ⊢
  have hl : lv_has ls 9 [(0, .int x0), (1, .int x1), (2, .int x2), (3, .int x3), (4, .int x4)] := hl
  exact w_X5_turned_0 ⟨B.exec, B.bytes, B.returns, hml, findClass_of_methodNamed B.named, atoms_spec (ws := wsX5_turned) B.pre, B.notSynchronized, hA⟩ hK x0 x1 x2 x3 x4 hf _ _ hP hD va_S.rf ls (lv_sub hl [0, 1, 2, 3, 4] rfl)
-- X5.third(II)I: 43 instructions
abbrev ws_X5_third (cB cI cJ cZ : ClassId)  : va_W := []
abbrev rm_X5_third : Room := { frames := 0, cells := 0, slots := 0, locals := 0 }
def f_X5_third_46   (y0 : Int32) (y1 : Int32) (y2 : Int32) : Option (Int32 × Unit) :=
  some (((y2 + ((y1 + y0) - (y1 + y0) / (2 : Int32) * (2 : Int32))), ()))
def f_X5_third_30   (x0 : Int32) (x1 : Int32) (x2 : Int32) (y0 : Int32) : Option (Int32 × Unit) :=
  if y0 = 0 then
  (f_X5_third_46 (1 : Int32) (x0 + x1) ((2 : Int32) * x2))
  else
  (f_X5_third_46 (0 : Int32) (x0 + x1) ((2 : Int32) * x2))
def f_X5_third   (x0 : Int32) (x1 : Int32) : Option (Int32 × Unit) :=
  if ((((x1 / (2 : Int32)) - (x0 / (2 : Int32))) + (3 : Int32)) - (((x1 / (2 : Int32)) - (x0 / (2 : Int32))) + (3 : Int32)) / (3 : Int32) * (3 : Int32)) = (1 : Int32) then
  (f_X5_third_30 x0 x1 (((3 : Int32) - (x0 / (2 : Int32))) - (x1 / (2 : Int32))) (1 : Int32))
  else
  (f_X5_third_30 x0 x1 (((3 : Int32) - (x0 / (2 : Int32))) - (x1 / (2 : Int32))) (0 : Int32))
abbrev qc_X5_third (A : Nat → Prop) (dC : Nat → ClassId) (dI : Nat → Nat → Nat) (cB cI cJ cZ : ClassId)  (out : Int32 × Unit) : Array Value → State → Outcome → State → Prop := va_Qi (fun (r : Int32) (u : Unit) => r = out.1 ∧ u = out.2) (fun (u : Unit) (t : State) => va_P (dC, dI) vwCl (ws_X5_third cB cI cJ cZ  ) t.heap ∧ va_K (dC, dI) vwCl (tysG cB cI cJ cZ) t ∧ va_D A (ws_X5_third cB cI cJ cZ  )) A
abbrev g_X5_third_46 (p : Program) (l : Launch) (e : Env) (s : State) (m : MethodId) (args : Array Value) (below : List Frame) (meth : Method) (c : Code) (A : Nat → Prop) (dC : Nat → ClassId) (dI : Nat → Nat → Nat) (cB cI cJ cZ : ClassId)  (out : Int32 × Unit) (k : Int32 → Int32 → Int32 → Option (Int32 × Unit)) : Prop := ∀ (y0 : Int32) (y1 : Int32) (y2 : Int32), k y0 y1 y2 = some out → ∀ (H : Heap) (locs : List Loc), va_P (dC, dI) vwCl (ws_X5_third cB cI cJ cZ  ) H → va_D A (ws_X5_third cB cI cJ cZ  ) → va_S A s.heap H locs → ∀ (ls : Array Slot), lv_has ls 4 [] → W p l e (headSpec wsX5_third rm_X5_third).room s m args below meth c H locs 0 0 (MQ below (qc_X5_third A dC dI cB cI cJ cZ   out) args s 0 0 A) (F0 m 46 ls [.int y0, .int y1, .int y2])
abbrev g_X5_third_30 (p : Program) (l : Launch) (e : Env) (s : State) (m : MethodId) (args : Array Value) (below : List Frame) (meth : Method) (c : Code) (A : Nat → Prop) (dC : Nat → ClassId) (dI : Nat → Nat → Nat) (cB cI cJ cZ : ClassId)  (out : Int32 × Unit) (k : Int32 → Int32 → Int32 → Int32 → Option (Int32 × Unit)) : Prop := ∀ (x0 : Int32) (x1 : Int32) (x2 : Int32) (y0 : Int32), k x0 x1 x2 y0 = some out → ∀ (H : Heap) (locs : List Loc), va_P (dC, dI) vwCl (ws_X5_third cB cI cJ cZ  ) H → va_D A (ws_X5_third cB cI cJ cZ  ) → va_S A s.heap H locs → ∀ (ls : Array Slot), lv_has ls 4 [(0, .int x0), (1, .int x1), (2, .int x2)] → W p l e (headSpec wsX5_third rm_X5_third).room s m args below meth c H locs 0 0 (MQ below (qc_X5_third A dC dI cB cI cJ cZ   out) args s 0 0 A) (F0 m 30 ls [.int y0])
abbrev g_X5_third_0 (p : Program) (l : Launch) (e : Env) (s : State) (m : MethodId) (args : Array Value) (below : List Frame) (meth : Method) (c : Code) (A : Nat → Prop) (dC : Nat → ClassId) (dI : Nat → Nat → Nat) (cB cI cJ cZ : ClassId)  (out : Int32 × Unit) (k : Int32 → Int32 → Option (Int32 × Unit)) : Prop := ∀ (x0 : Int32) (x1 : Int32), k x0 x1 = some out → ∀ (H : Heap) (locs : List Loc), va_P (dC, dI) vwCl (ws_X5_third cB cI cJ cZ  ) H → va_D A (ws_X5_third cB cI cJ cZ  ) → va_S A s.heap H locs → ∀ (ls : Array Slot), lv_has ls 4 [(0, .int x0), (1, .int x1)] → W p l e (headSpec wsX5_third rm_X5_third).room s m args below meth c H locs 0 0 (MQ below (qc_X5_third A dC dI cB cI cJ cZ   out) args s 0 0 A) (F0 m 0 ls [])
set_option maxHeartbeats 4000000 in
set_option maxRecDepth 100000 in
theorem w_X5_third_46 {p : Program} {l : Launch} {e : Env} {s : State} {m : MethodId} {args : Array Value} {below : List Frame} {meth : Method} {c : Code} {A : Nat → Prop} {dC : Nat → ClassId} {dI : Nat → Nat → Nat} {cB cI cJ cZ : ClassId}  {out : Int32 × Unit} (C0 : Cx RX5 cX5_third (some .int) 4 wsX5_third p s m args meth c A) (hK : va_K (dC, dI) vwCl (tysG cB cI cJ cZ) s)  : g_X5_third_46 p l e s m args below meth c A dC dI cB cI cJ cZ   out (f_X5_third_46  ) := by
  obtain ⟨hx, hb, hr, hml, hown, hts, hlocks, hA⟩ := id C0
  intro y0 y1 y2 hf H locs hP hD hS ls hl
  replace hf : ((some (((y2 + ((y1 + y0) - (y1 + y0) / (2 : Int32) * (2 : Int32))), ()))) : Option (Int32 × Unit)) = some out := hf
  refine lv_iadd hx hb dX5_third_46 ?_
  refine lv_iconst (v := 2) hx hb dX5_third_47 (by decide) ?_
  refine lv_irem hx hb dX5_third_48 (by decide) ?_
  refine lv_iadd hx hb dX5_third_49 ?_
  have h9 := Option.some.inj hf
  have h8 := congrArg Prod.fst h9
  have h7 := congrArg Prod.snd h9
  exact W.iret (v := (y2 + ((y1 + y0) - (y1 + y0) / (2 : Int32) * (2 : Int32)))) hx hb hr (fun t ht hW => ⟨⟨(y2 + ((y1 + y0) - (y1 + y0) / (2 : Int32) * (2 : Int32))), (), rfl, ⟨h8, h7⟩, by rw [ht]; exact hP, va_K.moved hW.alike hK, hD⟩, hS.F ht⟩) hS.2.2 dX5_third_50
set_option maxHeartbeats 4000000 in
set_option maxRecDepth 100000 in
theorem w_X5_third_30 {p : Program} {l : Launch} {e : Env} {s : State} {m : MethodId} {args : Array Value} {below : List Frame} {meth : Method} {c : Code} {A : Nat → Prop} {dC : Nat → ClassId} {dI : Nat → Nat → Nat} {cB cI cJ cZ : ClassId}  {out : Int32 × Unit} (C0 : Cx RX5 cX5_third (some .int) 4 wsX5_third p s m args meth c A) (hK : va_K (dC, dI) vwCl (tysG cB cI cJ cZ) s)  : g_X5_third_30 p l e s m args below meth c A dC dI cB cI cJ cZ   out (f_X5_third_30  ) := by
  obtain ⟨hx, hb, hr, hml, hown, hts, hlocks, hA⟩ := id C0
  intro x0 x1 x2 y0 hf H locs hP hD hS ls hl
  replace hf : ((if y0 = 0 then
  (f_X5_third_46 (1 : Int32) (x0 + x1) ((2 : Int32) * x2))
  else
  (f_X5_third_46 (0 : Int32) (x0 + x1) ((2 : Int32) * x2))) : Option (Int32 × Unit)) = some out := hf
  refine lv_istore_n (lv' := [(3, .int y0), (0, .int x0), (1, .int x1), (2, .int x2)]) hx hb dX5_third_30 rfl hl (by decide) rfl (fun ls hl => ?_)
  refine lv_iconst (v := 2) hx hb dX5_third_31 (by decide) ?_
  refine lv_iload_n hx hb dX5_third_32 rfl (lv_at hl 3 rfl) ?_
  refine lv_imul hx hb dX5_third_33 ?_
  refine lv_iload_n hx hb dX5_third_34 rfl (lv_at hl 1 rfl) ?_
  refine lv_iload_n hx hb dX5_third_35 rfl (lv_at hl 2 rfl) ?_
  refine lv_iadd hx hb dX5_third_36 ?_
  refine lv_iload_n hx hb dX5_third_37 rfl (lv_at hl 0 rfl) ?_
  refine lv_if_eq (tgt := 45) hx hb dX5_third_38 (by decide) (fun c_1 => ?_) (fun c_1 => ?_)
  · replace hf := (if_pos c_1).symm.trans hf
    refine lv_iconst (v := 1) hx hb dX5_third_45 (by decide) ?_
    exact w_X5_third_46 C0 hK (1 : Int32) (x0 + x1) ((2 : Int32) * x2) hf _ _ hP hD hS ls (lv_sub hl [] rfl)
  · replace hf := (if_neg c_1).symm.trans hf
    refine lv_iconst (v := 0) hx hb dX5_third_41 (by decide) ?_
    refine lv_goto (tgt := 46) hx hb dX5_third_42 (by decide) ?_
    exact w_X5_third_46 C0 hK (0 : Int32) (x0 + x1) ((2 : Int32) * x2) hf _ _ hP hD hS ls (lv_sub hl [] rfl)
set_option maxHeartbeats 4000000 in
set_option maxRecDepth 100000 in
theorem w_X5_third_0 {p : Program} {l : Launch} {e : Env} {s : State} {m : MethodId} {args : Array Value} {below : List Frame} {meth : Method} {c : Code} {A : Nat → Prop} {dC : Nat → ClassId} {dI : Nat → Nat → Nat} {cB cI cJ cZ : ClassId}  {out : Int32 × Unit} (C0 : Cx RX5 cX5_third (some .int) 4 wsX5_third p s m args meth c A) (hK : va_K (dC, dI) vwCl (tysG cB cI cJ cZ) s)  : g_X5_third_0 p l e s m args below meth c A dC dI cB cI cJ cZ   out (f_X5_third  ) := by
  obtain ⟨hx, hb, hr, hml, hown, hts, hlocks, hA⟩ := id C0
  intro x0 x1 hf H locs hP hD hS ls hl
  replace hf : ((if ((((x1 / (2 : Int32)) - (x0 / (2 : Int32))) + (3 : Int32)) - (((x1 / (2 : Int32)) - (x0 / (2 : Int32))) + (3 : Int32)) / (3 : Int32) * (3 : Int32)) = (1 : Int32) then
  (f_X5_third_30 x0 x1 (((3 : Int32) - (x0 / (2 : Int32))) - (x1 / (2 : Int32))) (1 : Int32))
  else
  (f_X5_third_30 x0 x1 (((3 : Int32) - (x0 / (2 : Int32))) - (x1 / (2 : Int32))) (0 : Int32))) : Option (Int32 × Unit)) = some out := hf
  refine lv_iconst (v := 3) hx hb dX5_third_0 (by decide) ?_
  refine lv_iload_n hx hb dX5_third_1 rfl (lv_at hl 0 rfl) ?_
  refine lv_iconst (v := 2) hx hb dX5_third_2 (by decide) ?_
  refine lv_idiv hx hb dX5_third_3 (by decide) ?_
  refine lv_isub hx hb dX5_third_4 ?_
  refine lv_iload_n hx hb dX5_third_5 rfl (lv_at hl 1 rfl) ?_
  refine lv_iconst (v := 2) hx hb dX5_third_6 (by decide) ?_
  refine lv_idiv hx hb dX5_third_7 (by decide) ?_
  refine lv_isub hx hb dX5_third_8 ?_
  refine lv_istore_n (lv' := [(2, .int (((3 : Int32) - (x0 / (2 : Int32))) - (x1 / (2 : Int32)))), (0, .int x0), (1, .int x1)]) hx hb dX5_third_9 rfl hl (by decide) rfl (fun ls hl => ?_)
  refine lv_iload_n hx hb dX5_third_10 rfl (lv_at hl 2 rfl) ?_
  refine lv_iconst (v := 2) hx hb dX5_third_11 (by decide) ?_
  refine lv_idiv hx hb dX5_third_12 (by decide) ?_
  refine lv_iload_n hx hb dX5_third_13 rfl (lv_at hl 1 rfl) ?_
  refine lv_iconst (v := 2) hx hb dX5_third_14 (by decide) ?_
  refine lv_idiv hx hb dX5_third_15 (by decide) ?_
  refine lv_isub hx hb dX5_third_16 ?_
  refine lv_iconst (v := 3) hx hb dX5_third_17 (by decide) ?_
  refine lv_iadd hx hb dX5_third_18 ?_
  refine lv_iconst (v := 3) hx hb dX5_third_19 (by decide) ?_
  refine lv_irem hx hb dX5_third_20 (by decide) ?_
  refine lv_iconst (v := 1) hx hb dX5_third_21 (by decide) ?_
  refine lv_icmp_ne (tgt := 29) hx hb dX5_third_22 (by decide) (fun c_2 => ?_) (fun c_2 => ?_)
  · replace hf := (if_neg c_2).symm.trans hf
    refine lv_iconst (v := 0) hx hb dX5_third_29 (by decide) ?_
    exact w_X5_third_30 C0 hK x0 x1 (((3 : Int32) - (x0 / (2 : Int32))) - (x1 / (2 : Int32))) (0 : Int32) hf _ _ hP hD hS ls (lv_sub hl [1, 2, 0] rfl)
  · replace hf := (if_pos c_2).symm.trans hf
    refine lv_iconst (v := 1) hx hb dX5_third_25 (by decide) ?_
    refine lv_goto (tgt := 30) hx hb dX5_third_26 (by decide) ?_
    exact w_X5_third_30 C0 hK x0 x1 (((3 : Int32) - (x0 / (2 : Int32))) - (x1 / (2 : Int32))) (1 : Int32) hf _ _ hP hD hS ls (lv_sub hl [1, 2, 0] rfl)
theorem nd_X5_third : yX5_third.cls ≠ "java/lang/invoke/MethodHandle" ∧ yX5_third.cls ≠ "java/lang/invoke/VarHandle" ∧ (parseMethodDescriptor yX5_third.desc).map (fun d => d.parameters.length) = some 2 := by decide +kernel
set_option maxHeartbeats 4000000 in
set_option maxRecDepth 100000 in
theorem c_X5_third (l : Launch) (dC : Nat → ClassId) (dI : Nat → Nat → Nat) (cB cI cJ cZ : ClassId) (sz : Nat)  (x0 : Int32) (x1 : Int32) (out : Int32 × Unit) (hf : f_X5_third  x0 x1 = some out) : Met l yX5_third wsX5_third rm_X5_third (va_Pc [.int x0, .int x1] (fun U => U.heap.size = sz ∧ va_P (dC, dI) vwCl (ws_X5_third cB cI cJ cZ  ) U.heap ∧ va_K (dC, dI) vwCl (tysG cB cI cJ cZ) U ∧ va_D (fun _ => True) (ws_X5_third cB cI cJ cZ  ))) (qc_X5_third (va_A (ws_X5_third cB cI cJ cZ  ) sz) dC dI cB cI cJ cZ   out) 0 0 (va_A (ws_X5_third cB cI cJ cZ  ) sz) := by
  refine Met.ofW (cc := cX5_third) (maxL := 4) (ret := (some .int)) (by decide) rfl ?_
  intro p e s m args below meth c s₁ B hml hv
  obtain ⟨rfl, hsz, hP, hK, hD0⟩ := hv
  subst hsz
  have hD := hD0.self (sz := s.heap.size)
  generalize hAe : va_A (ws_X5_third cB cI cJ cZ  ) s.heap.size = A at hD ⊢
  have hA : ∀ q : Nat, s.heap.size ≤ q → A q := fun q h => by rw [← hAe]; exact Or.inr h
  have hl := lv_entry ([.int x0, .int x1]) (n := 4) (Nat.le_of_ble_eq_true rfl)
  rw [lg_entry_eq]
  generalize (lg_sl ([.int x0, .int x1]) ++ List.replicate (4 - (lg_sl ([.int x0, .int x1])).length) Slot.unset).toArray = ls at hl ⊢
  have hl : lv_has ls 4 [(0, .int x0), (1, .int x1)] := hl
  exact w_X5_third_0 ⟨B.exec, B.bytes, B.returns, hml, findClass_of_methodNamed B.named, atoms_spec (ws := wsX5_third) B.pre, B.notSynchronized, hA⟩ hK x0 x1 hf _ _ hP hD va_S.rf ls (lv_sub hl [0, 1] rfl)
-- X5.isDue(III)Z: 39 instructions
abbrev ws_X5_isDue (cB cI cJ cZ : ClassId)  : va_W := []
abbrev rm_X5_isDue : Room := { frames := 1, cells := 0, slots := 0, locals := 23 }
def f_X5_isDue_58   (y0 : Int32) : Option (Int32 × Unit) :=
  if ¬ (y0 = 0 ∨ y0 = 1) then none else
  some ((y0, ()))
def f_X5_isDue_53    : Option (Int32 × Unit) :=
  f_X5_isDue_58 (1 : Int32)
def f_X5_isDue_57    : Option (Int32 × Unit) :=
  f_X5_isDue_58 (0 : Int32)
def f_X5_isDue_44   (x0 : Int32) (x1 : Int32) : Option (Int32 × Unit) :=
  if x0 = 0 then
  (if x1 = (2 : Int32) then
  (f_X5_isDue_53 )
  else
  (f_X5_isDue_57 ))
  else
  (f_X5_isDue_57 )
def f_X5_isDue_34   (x0 : Int32) (x1 : Int32) (x2 : Int32) (x3 : Int32) : Option (Int32 × Unit) :=
  if x2 = (1 : Int32) then
  (if x3 = (4 : Int32) then
  (f_X5_isDue_53 )
  else
  (f_X5_isDue_44 x0 x1))
  else
  (f_X5_isDue_44 x0 x1)
def f_X5_isDue   (x0 : Int32) (x1 : Int32) (x2 : Int32) : Option (Int32 × Unit) :=
  if (x0 / (2 : Int32)) = (x1 / (2 : Int32)) then
  (some (((0 : Int32), ())))
  else
  ((f_X5_third x0 x1).bind (fun o_7 =>
  if x2 = (3 : Int32) then
  (f_X5_isDue_53 )
  else
  (if x2 = (2 : Int32) then
  (if (o_7.1 / (2 : Int32)) = (2 : Int32) then
  (f_X5_isDue_53 )
  else
  (f_X5_isDue_34 x0 x1 x2 o_7.1))
  else
  (f_X5_isDue_34 x0 x1 x2 o_7.1))))
abbrev qc_X5_isDue (A : Nat → Prop) (dC : Nat → ClassId) (dI : Nat → Nat → Nat) (cB cI cJ cZ : ClassId)  (out : Int32 × Unit) : Array Value → State → Outcome → State → Prop := va_Qi (fun (r : Int32) (u : Unit) => r = out.1 ∧ u = out.2) (fun (u : Unit) (t : State) => va_P (dC, dI) vwCl (ws_X5_isDue cB cI cJ cZ  ) t.heap ∧ va_K (dC, dI) vwCl (tysG cB cI cJ cZ) t ∧ va_D A (ws_X5_isDue cB cI cJ cZ  )) A
abbrev g_X5_isDue_58 (p : Program) (l : Launch) (e : Env) (s : State) (m : MethodId) (args : Array Value) (below : List Frame) (meth : Method) (c : Code) (A : Nat → Prop) (dC : Nat → ClassId) (dI : Nat → Nat → Nat) (cB cI cJ cZ : ClassId)  (out : Int32 × Unit) (k : Int32 → Option (Int32 × Unit)) : Prop := ∀ (y0 : Int32), k y0 = some out → ∀ (H : Heap) (locs : List Loc), va_P (dC, dI) vwCl (ws_X5_isDue cB cI cJ cZ  ) H → va_D A (ws_X5_isDue cB cI cJ cZ  ) → va_S A s.heap H locs → ∀ (ls : Array Slot), lv_has ls 4 [] → W p l e (headSpec wsX5_isDue rm_X5_isDue).room s m args below meth c H locs 0 0 (MQ below (qc_X5_isDue A dC dI cB cI cJ cZ   out) args s 0 0 A) (F0 m 58 ls [.int y0])
abbrev g_X5_isDue_53 (p : Program) (l : Launch) (e : Env) (s : State) (m : MethodId) (args : Array Value) (below : List Frame) (meth : Method) (c : Code) (A : Nat → Prop) (dC : Nat → ClassId) (dI : Nat → Nat → Nat) (cB cI cJ cZ : ClassId)  (out : Int32 × Unit) (k : Option (Int32 × Unit)) : Prop := ∀ (_ : Unit), k = some out → ∀ (H : Heap) (locs : List Loc), va_P (dC, dI) vwCl (ws_X5_isDue cB cI cJ cZ  ) H → va_D A (ws_X5_isDue cB cI cJ cZ  ) → va_S A s.heap H locs → ∀ (ls : Array Slot), lv_has ls 4 [] → W p l e (headSpec wsX5_isDue rm_X5_isDue).room s m args below meth c H locs 0 0 (MQ below (qc_X5_isDue A dC dI cB cI cJ cZ   out) args s 0 0 A) (F0 m 53 ls [])
abbrev g_X5_isDue_57 (p : Program) (l : Launch) (e : Env) (s : State) (m : MethodId) (args : Array Value) (below : List Frame) (meth : Method) (c : Code) (A : Nat → Prop) (dC : Nat → ClassId) (dI : Nat → Nat → Nat) (cB cI cJ cZ : ClassId)  (out : Int32 × Unit) (k : Option (Int32 × Unit)) : Prop := ∀ (_ : Unit), k = some out → ∀ (H : Heap) (locs : List Loc), va_P (dC, dI) vwCl (ws_X5_isDue cB cI cJ cZ  ) H → va_D A (ws_X5_isDue cB cI cJ cZ  ) → va_S A s.heap H locs → ∀ (ls : Array Slot), lv_has ls 4 [] → W p l e (headSpec wsX5_isDue rm_X5_isDue).room s m args below meth c H locs 0 0 (MQ below (qc_X5_isDue A dC dI cB cI cJ cZ   out) args s 0 0 A) (F0 m 57 ls [])
abbrev g_X5_isDue_44 (p : Program) (l : Launch) (e : Env) (s : State) (m : MethodId) (args : Array Value) (below : List Frame) (meth : Method) (c : Code) (A : Nat → Prop) (dC : Nat → ClassId) (dI : Nat → Nat → Nat) (cB cI cJ cZ : ClassId)  (out : Int32 × Unit) (k : Int32 → Int32 → Option (Int32 × Unit)) : Prop := ∀ (x0 : Int32) (x1 : Int32), k x0 x1 = some out → ∀ (H : Heap) (locs : List Loc), va_P (dC, dI) vwCl (ws_X5_isDue cB cI cJ cZ  ) H → va_D A (ws_X5_isDue cB cI cJ cZ  ) → va_S A s.heap H locs → ∀ (ls : Array Slot), lv_has ls 4 [(0, .int x0), (1, .int x1)] → W p l e (headSpec wsX5_isDue rm_X5_isDue).room s m args below meth c H locs 0 0 (MQ below (qc_X5_isDue A dC dI cB cI cJ cZ   out) args s 0 0 A) (F0 m 44 ls [])
abbrev g_X5_isDue_34 (p : Program) (l : Launch) (e : Env) (s : State) (m : MethodId) (args : Array Value) (below : List Frame) (meth : Method) (c : Code) (A : Nat → Prop) (dC : Nat → ClassId) (dI : Nat → Nat → Nat) (cB cI cJ cZ : ClassId)  (out : Int32 × Unit) (k : Int32 → Int32 → Int32 → Int32 → Option (Int32 × Unit)) : Prop := ∀ (x0 : Int32) (x1 : Int32) (x2 : Int32) (x3 : Int32), k x0 x1 x2 x3 = some out → ∀ (H : Heap) (locs : List Loc), va_P (dC, dI) vwCl (ws_X5_isDue cB cI cJ cZ  ) H → va_D A (ws_X5_isDue cB cI cJ cZ  ) → va_S A s.heap H locs → ∀ (ls : Array Slot), lv_has ls 4 [(0, .int x0), (1, .int x1), (2, .int x2), (3, .int x3)] → W p l e (headSpec wsX5_isDue rm_X5_isDue).room s m args below meth c H locs 0 0 (MQ below (qc_X5_isDue A dC dI cB cI cJ cZ   out) args s 0 0 A) (F0 m 34 ls [])
abbrev g_X5_isDue_0 (p : Program) (l : Launch) (e : Env) (s : State) (m : MethodId) (args : Array Value) (below : List Frame) (meth : Method) (c : Code) (A : Nat → Prop) (dC : Nat → ClassId) (dI : Nat → Nat → Nat) (cB cI cJ cZ : ClassId)  (out : Int32 × Unit) (k : Int32 → Int32 → Int32 → Option (Int32 × Unit)) : Prop := ∀ (x0 : Int32) (x1 : Int32) (x2 : Int32), k x0 x1 x2 = some out → ∀ (H : Heap) (locs : List Loc), va_P (dC, dI) vwCl (ws_X5_isDue cB cI cJ cZ  ) H → va_D A (ws_X5_isDue cB cI cJ cZ  ) → va_S A s.heap H locs → ∀ (ls : Array Slot), lv_has ls 4 [(0, .int x0), (1, .int x1), (2, .int x2)] → W p l e (headSpec wsX5_isDue rm_X5_isDue).room s m args below meth c H locs 0 0 (MQ below (qc_X5_isDue A dC dI cB cI cJ cZ   out) args s 0 0 A) (F0 m 0 ls [])
set_option maxHeartbeats 4000000 in
set_option maxRecDepth 100000 in
theorem w_X5_isDue_58 {p : Program} {l : Launch} {e : Env} {s : State} {m : MethodId} {args : Array Value} {below : List Frame} {meth : Method} {c : Code} {A : Nat → Prop} {dC : Nat → ClassId} {dI : Nat → Nat → Nat} {cB cI cJ cZ : ClassId}  {out : Int32 × Unit} (C0 : Cx RX5 cX5_isDue (some .boolean) 4 wsX5_isDue p s m args meth c A) (hK : va_K (dC, dI) vwCl (tysG cB cI cJ cZ) s)  : g_X5_isDue_58 p l e s m args below meth c A dC dI cB cI cJ cZ   out (f_X5_isDue_58  ) := by
  obtain ⟨hx, hb, hr, hml, hown, hts, hlocks, hA⟩ := id C0
  intro y0 hf H locs hP hD hS ls hl
  replace hf : ((if ¬ (y0 = 0 ∨ y0 = 1) then none else
  some ((y0, ()))) : Option (Int32 × Unit)) = some out := hf
  obtain ⟨h_1, hf⟩ := gd_ck hf
  have h9 := Option.some.inj hf
  have h8 := congrArg Prod.fst h9
  have h7 := congrArg Prod.snd h9
  exact W.zret (v := y0) hx hb hr (gd_z h_1) (fun t ht hW => ⟨⟨y0, (), rfl, ⟨h8, h7⟩, by rw [ht]; exact hP, va_K.moved hW.alike hK, hD⟩, hS.F ht⟩) hS.2.2 dX5_isDue_58
set_option maxHeartbeats 4000000 in
set_option maxRecDepth 100000 in
theorem w_X5_isDue_53 {p : Program} {l : Launch} {e : Env} {s : State} {m : MethodId} {args : Array Value} {below : List Frame} {meth : Method} {c : Code} {A : Nat → Prop} {dC : Nat → ClassId} {dI : Nat → Nat → Nat} {cB cI cJ cZ : ClassId}  {out : Int32 × Unit} (C0 : Cx RX5 cX5_isDue (some .boolean) 4 wsX5_isDue p s m args meth c A) (hK : va_K (dC, dI) vwCl (tysG cB cI cJ cZ) s)  : g_X5_isDue_53 p l e s m args below meth c A dC dI cB cI cJ cZ   out (f_X5_isDue_53  ) := by
  obtain ⟨hx, hb, hr, hml, hown, hts, hlocks, hA⟩ := id C0
  intro _ hf H locs hP hD hS ls hl
  replace hf : ((f_X5_isDue_58 (1 : Int32)) : Option (Int32 × Unit)) = some out := hf
  refine lv_iconst (v := 1) hx hb dX5_isDue_53 (by decide) ?_
  refine lv_goto (tgt := 58) hx hb dX5_isDue_54 (by decide) ?_
  exact w_X5_isDue_58 C0 hK (1 : Int32) hf _ _ hP hD hS ls (lv_sub hl [] rfl)
set_option maxHeartbeats 4000000 in
set_option maxRecDepth 100000 in
theorem w_X5_isDue_57 {p : Program} {l : Launch} {e : Env} {s : State} {m : MethodId} {args : Array Value} {below : List Frame} {meth : Method} {c : Code} {A : Nat → Prop} {dC : Nat → ClassId} {dI : Nat → Nat → Nat} {cB cI cJ cZ : ClassId}  {out : Int32 × Unit} (C0 : Cx RX5 cX5_isDue (some .boolean) 4 wsX5_isDue p s m args meth c A) (hK : va_K (dC, dI) vwCl (tysG cB cI cJ cZ) s)  : g_X5_isDue_57 p l e s m args below meth c A dC dI cB cI cJ cZ   out (f_X5_isDue_57  ) := by
  obtain ⟨hx, hb, hr, hml, hown, hts, hlocks, hA⟩ := id C0
  intro _ hf H locs hP hD hS ls hl
  replace hf : ((f_X5_isDue_58 (0 : Int32)) : Option (Int32 × Unit)) = some out := hf
  refine lv_iconst (v := 0) hx hb dX5_isDue_57 (by decide) ?_
  exact w_X5_isDue_58 C0 hK (0 : Int32) hf _ _ hP hD hS ls (lv_sub hl [] rfl)
set_option maxHeartbeats 4000000 in
set_option maxRecDepth 100000 in
theorem w_X5_isDue_44 {p : Program} {l : Launch} {e : Env} {s : State} {m : MethodId} {args : Array Value} {below : List Frame} {meth : Method} {c : Code} {A : Nat → Prop} {dC : Nat → ClassId} {dI : Nat → Nat → Nat} {cB cI cJ cZ : ClassId}  {out : Int32 × Unit} (C0 : Cx RX5 cX5_isDue (some .boolean) 4 wsX5_isDue p s m args meth c A) (hK : va_K (dC, dI) vwCl (tysG cB cI cJ cZ) s)  : g_X5_isDue_44 p l e s m args below meth c A dC dI cB cI cJ cZ   out (f_X5_isDue_44  ) := by
  obtain ⟨hx, hb, hr, hml, hown, hts, hlocks, hA⟩ := id C0
  intro x0 x1 hf H locs hP hD hS ls hl
  replace hf : ((if x0 = 0 then
  (if x1 = (2 : Int32) then
  (f_X5_isDue_53 )
  else
  (f_X5_isDue_57 ))
  else
  (f_X5_isDue_57 )) : Option (Int32 × Unit)) = some out := hf
  refine lv_iload_n hx hb dX5_isDue_44 rfl (lv_at hl 0 rfl) ?_
  refine lv_if_ne (tgt := 57) hx hb dX5_isDue_45 (by decide) (fun c_2 => ?_) (fun c_2 => ?_)
  · replace hf := (if_neg c_2).symm.trans hf
    exact w_X5_isDue_57 C0 hK () hf _ _ hP hD hS ls (lv_sub hl [] rfl)
  · replace hf := (if_pos c_2).symm.trans hf
    refine lv_iload_n hx hb dX5_isDue_48 rfl (lv_at hl 1 rfl) ?_
    refine lv_iconst (v := 2) hx hb dX5_isDue_49 (by decide) ?_
    refine lv_icmp_ne (tgt := 57) hx hb dX5_isDue_50 (by decide) (fun c_3 => ?_) (fun c_3 => ?_)
    · replace hf := (if_neg c_3).symm.trans hf
      exact w_X5_isDue_57 C0 hK () hf _ _ hP hD hS ls (lv_sub hl [] rfl)
    · replace hf := (if_pos c_3).symm.trans hf
      exact w_X5_isDue_53 C0 hK () hf _ _ hP hD hS ls (lv_sub hl [] rfl)
set_option maxHeartbeats 4000000 in
set_option maxRecDepth 100000 in
theorem w_X5_isDue_34 {p : Program} {l : Launch} {e : Env} {s : State} {m : MethodId} {args : Array Value} {below : List Frame} {meth : Method} {c : Code} {A : Nat → Prop} {dC : Nat → ClassId} {dI : Nat → Nat → Nat} {cB cI cJ cZ : ClassId}  {out : Int32 × Unit} (C0 : Cx RX5 cX5_isDue (some .boolean) 4 wsX5_isDue p s m args meth c A) (hK : va_K (dC, dI) vwCl (tysG cB cI cJ cZ) s)  : g_X5_isDue_34 p l e s m args below meth c A dC dI cB cI cJ cZ   out (f_X5_isDue_34  ) := by
  obtain ⟨hx, hb, hr, hml, hown, hts, hlocks, hA⟩ := id C0
  intro x0 x1 x2 x3 hf H locs hP hD hS ls hl
  replace hf : ((if x2 = (1 : Int32) then
  (if x3 = (4 : Int32) then
  (f_X5_isDue_53 )
  else
  (f_X5_isDue_44 x0 x1))
  else
  (f_X5_isDue_44 x0 x1)) : Option (Int32 × Unit)) = some out := hf
  refine lv_iload_n hx hb dX5_isDue_34 rfl (lv_at hl 2 rfl) ?_
  refine lv_iconst (v := 1) hx hb dX5_isDue_35 (by decide) ?_
  refine lv_icmp_ne (tgt := 44) hx hb dX5_isDue_36 (by decide) (fun c_4 => ?_) (fun c_4 => ?_)
  · replace hf := (if_neg c_4).symm.trans hf
    exact w_X5_isDue_44 C0 hK x0 x1 hf _ _ hP hD hS ls (lv_sub hl [0, 1] rfl)
  · replace hf := (if_pos c_4).symm.trans hf
    refine lv_iload_n hx hb dX5_isDue_39 rfl (lv_at hl 3 rfl) ?_
    refine lv_iconst (v := 4) hx hb dX5_isDue_40 (by decide) ?_
    refine lv_icmp_eq (tgt := 53) hx hb dX5_isDue_41 (by decide) (fun c_5 => ?_) (fun c_5 => ?_)
    · replace hf := (if_pos c_5).symm.trans hf
      exact w_X5_isDue_53 C0 hK () hf _ _ hP hD hS ls (lv_sub hl [] rfl)
    · replace hf := (if_neg c_5).symm.trans hf
      exact w_X5_isDue_44 C0 hK x0 x1 hf _ _ hP hD hS ls (lv_sub hl [0, 1] rfl)
set_option maxHeartbeats 4000000 in
set_option maxRecDepth 100000 in
theorem w_X5_isDue_0 {p : Program} {l : Launch} {e : Env} {s : State} {m : MethodId} {args : Array Value} {below : List Frame} {meth : Method} {c : Code} {A : Nat → Prop} {dC : Nat → ClassId} {dI : Nat → Nat → Nat} {cB cI cJ cZ : ClassId}  {out : Int32 × Unit} (C0 : Cx RX5 cX5_isDue (some .boolean) 4 wsX5_isDue p s m args meth c A) (hK : va_K (dC, dI) vwCl (tysG cB cI cJ cZ) s)  : g_X5_isDue_0 p l e s m args below meth c A dC dI cB cI cJ cZ   out (f_X5_isDue  ) := by
  obtain ⟨hx, hb, hr, hml, hown, hts, hlocks, hA⟩ := id C0
  intro x0 x1 x2 hf H locs hP hD hS ls hl
  replace hf : ((if (x0 / (2 : Int32)) = (x1 / (2 : Int32)) then
  (some (((0 : Int32), ())))
  else
  ((f_X5_third x0 x1).bind (fun o_7 =>
  if x2 = (3 : Int32) then
  (f_X5_isDue_53 )
  else
  (if x2 = (2 : Int32) then
  (if (o_7.1 / (2 : Int32)) = (2 : Int32) then
  (f_X5_isDue_53 )
  else
  (f_X5_isDue_34 x0 x1 x2 o_7.1))
  else
  (f_X5_isDue_34 x0 x1 x2 o_7.1))))) : Option (Int32 × Unit)) = some out := hf
  refine lv_iload_n hx hb dX5_isDue_0 rfl (lv_at hl 0 rfl) ?_
  refine lv_iconst (v := 2) hx hb dX5_isDue_1 (by decide) ?_
  refine lv_idiv hx hb dX5_isDue_2 (by decide) ?_
  refine lv_iload_n hx hb dX5_isDue_3 rfl (lv_at hl 1 rfl) ?_
  refine lv_iconst (v := 2) hx hb dX5_isDue_4 (by decide) ?_
  refine lv_idiv hx hb dX5_isDue_5 (by decide) ?_
  refine lv_icmp_ne (tgt := 11) hx hb dX5_isDue_6 (by decide) (fun c_6 => ?_) (fun c_6 => ?_)
  · replace hf := (if_neg c_6).symm.trans hf
    refine lv_iload_n hx hb dX5_isDue_11 rfl (lv_at hl 0 rfl) ?_
    refine lv_iload_n hx hb dX5_isDue_12 rfl (lv_at hl 1 rfl) ?_
    obtain ⟨o_7, ho_7, hf⟩ := gd_bd hf
    have hPc := hP.sub (ws' := ws_X5_third cB cI cJ cZ  ) [] rfl
    have hDc := hD.sub (ws' := ws_X5_third cB cI cJ cZ  ) [] (by decide) rfl
    have hFc := va_free (wc := ws_X5_third cB cI cJ cZ  ) hD hS hA [] rfl
    refine va_calli (va_runS (As := [.int x0, .int x1]) (rest := []) ⟨hx, hb, hml, hown, hts⟩ (c_X5_third l dC dI cB cI cJ cZ H.size x0 x1 o_7 ho_7) (va_cwS 2 hts gX5_isDue_X5_third rfl rfl rfl nd_X5_third ⟨Nat.le_of_ble_eq_true rfl, Nat.le_of_ble_eq_true rfl⟩) ⟨fun a U g mk q => by obtain ⟨q0, q1, qP, qK, qD⟩ := q; exact ⟨q0, q1, qP, va_K.moved (u := U) (U := U.calling g mk a) (Vm.Alike.refl U.vm) qK, qD⟩, fun U hU hW => ⟨rfl, by rw [hU], by rw [hU]; exact hPc, va_K.moved hW.alike hK, hDc.weaken (fun _ _ _ _ => trivial)⟩⟩ rfl rfl hl.1 rfl (lv_room (Nat.le_of_ble_eq_true rfl)) dX5_isDue_13 ⟨Nat.le_of_ble_eq_true rfl, Nat.le_of_ble_eq_true rfl⟩) hS (fun q _ h => hFc q h) hFc (fun r_7 u_7 t H1 locs ht hvm hw hB hz1 hk1 hS => ?_)
    obtain ⟨rfl, rfl⟩ := hw
    obtain ⟨hP1, hK1, hD1⟩ := hB
    rw [ht] at hP1
    obtain ⟨hP, hD⟩ := va_join (wr := []) (w1 := ws_X5_third cB cI cJ cZ  ) hP hD [] [] rfl rfl (by decide) (by decide) hk1 hFc hP1 hD1
    generalize H1 = H at hP hS ⊢
    have hP : va_P (dC, dI) vwCl (ws_X5_isDue cB cI cJ cZ  ) H := hP.sub [] rfl
    have hD : va_D A (ws_X5_isDue cB cI cJ cZ  ) := hD.sub [] (by decide) rfl
    refine lv_istore_n (lv' := [(3, .int o_7.1), (0, .int x0), (1, .int x1), (2, .int x2)]) hx hb dX5_isDue_16 rfl hl (by decide) rfl (fun ls hl => ?_)
    refine lv_iload_n hx hb dX5_isDue_17 rfl (lv_at hl 3 rfl) ?_
    refine lv_iconst (v := 3) hx hb dX5_isDue_18 (by decide) ?_
    refine lv_icmp_eq (tgt := 53) hx hb dX5_isDue_19 (by decide) (fun c_8 => ?_) (fun c_8 => ?_)
    · replace hf := (if_pos c_8).symm.trans hf
      exact w_X5_isDue_53 C0 hK () hf _ _ hP hD hS ls (lv_sub hl [] rfl)
    · replace hf := (if_neg c_8).symm.trans hf
      refine lv_iload_n hx hb dX5_isDue_22 rfl (lv_at hl 3 rfl) ?_
      refine lv_iconst (v := 2) hx hb dX5_isDue_23 (by decide) ?_
      refine lv_icmp_ne (tgt := 34) hx hb dX5_isDue_24 (by decide) (fun c_9 => ?_) (fun c_9 => ?_)
      · replace hf := (if_neg c_9).symm.trans hf
        exact w_X5_isDue_34 C0 hK x0 x1 x2 o_7.1 hf _ _ hP hD hS ls (lv_sub hl [1, 2, 3, 0] rfl)
      · replace hf := (if_pos c_9).symm.trans hf
        refine lv_iload_n hx hb dX5_isDue_27 rfl (lv_at hl 0 rfl) ?_
        refine lv_iconst (v := 2) hx hb dX5_isDue_28 (by decide) ?_
        refine lv_idiv hx hb dX5_isDue_29 (by decide) ?_
        refine lv_iconst (v := 2) hx hb dX5_isDue_30 (by decide) ?_
        refine lv_icmp_eq (tgt := 53) hx hb dX5_isDue_31 (by decide) (fun c_10 => ?_) (fun c_10 => ?_)
        · replace hf := (if_pos c_10).symm.trans hf
          exact w_X5_isDue_53 C0 hK () hf _ _ hP hD hS ls (lv_sub hl [] rfl)
        · replace hf := (if_neg c_10).symm.trans hf
          exact w_X5_isDue_34 C0 hK x0 x1 x2 o_7.1 hf _ _ hP hD hS ls (lv_sub hl [1, 2, 3, 0] rfl)
  · replace hf := (if_pos c_6).symm.trans hf
    refine lv_iconst (v := 0) hx hb dX5_isDue_9 (by decide) ?_
    have h9 := Option.some.inj hf
    have h8 := congrArg Prod.fst h9
    have h7 := congrArg Prod.snd h9
    exact W.zret (v := (0 : Int32)) hx hb hr rfl (fun t ht hW => ⟨⟨(0 : Int32), (), rfl, ⟨h8, h7⟩, by rw [ht]; exact hP, va_K.moved hW.alike hK, hD⟩, hS.F ht⟩) hS.2.2 dX5_isDue_10
theorem nd_X5_isDue : yX5_isDue.cls ≠ "java/lang/invoke/MethodHandle" ∧ yX5_isDue.cls ≠ "java/lang/invoke/VarHandle" ∧ (parseMethodDescriptor yX5_isDue.desc).map (fun d => d.parameters.length) = some 3 := by decide +kernel
set_option maxHeartbeats 4000000 in
set_option maxRecDepth 100000 in
theorem c_X5_isDue (l : Launch) (dC : Nat → ClassId) (dI : Nat → Nat → Nat) (cB cI cJ cZ : ClassId) (sz : Nat)  (x0 : Int32) (x1 : Int32) (x2 : Int32) (out : Int32 × Unit) (hf : f_X5_isDue  x0 x1 x2 = some out) : Met l yX5_isDue wsX5_isDue rm_X5_isDue (va_Pc [.int x0, .int x1, .int x2] (fun U => U.heap.size = sz ∧ va_P (dC, dI) vwCl (ws_X5_isDue cB cI cJ cZ  ) U.heap ∧ va_K (dC, dI) vwCl (tysG cB cI cJ cZ) U ∧ va_D (fun _ => True) (ws_X5_isDue cB cI cJ cZ  ))) (qc_X5_isDue (va_A (ws_X5_isDue cB cI cJ cZ  ) sz) dC dI cB cI cJ cZ   out) 0 0 (va_A (ws_X5_isDue cB cI cJ cZ  ) sz) := by
  refine Met.ofW (cc := cX5_isDue) (maxL := 4) (ret := (some .boolean)) (by decide) rfl ?_
  intro p e s m args below meth c s₁ B hml hv
  obtain ⟨rfl, hsz, hP, hK, hD0⟩ := hv
  subst hsz
  have hD := hD0.self (sz := s.heap.size)
  generalize hAe : va_A (ws_X5_isDue cB cI cJ cZ  ) s.heap.size = A at hD ⊢
  have hA : ∀ q : Nat, s.heap.size ≤ q → A q := fun q h => by rw [← hAe]; exact Or.inr h
  have hl := lv_entry ([.int x0, .int x1, .int x2]) (n := 4) (Nat.le_of_ble_eq_true rfl)
  rw [lg_entry_eq]
  generalize (lg_sl ([.int x0, .int x1, .int x2]) ++ List.replicate (4 - (lg_sl ([.int x0, .int x1, .int x2])).length) Slot.unset).toArray = ls at hl ⊢
  have hl : lv_has ls 4 [(0, .int x0), (1, .int x1), (2, .int x2)] := hl
  exact w_X5_isDue_0 ⟨B.exec, B.bytes, B.returns, hml, findClass_of_methodNamed B.named, atoms_spec (ws := wsX5_isDue) B.pre, B.notSynchronized, hA⟩ hK x0 x1 x2 hf _ _ hP hD va_S.rf ls (lv_sub hl [0, 1, 2] rfl)
-- X5.placed(IIIIIIII)I: 85 instructions
theorem in_X5_placed_X5 : ∀ w ∈ wsX50, w ∈ wsX5_placed := by decide +kernel
abbrev ws_X5_placed (cB cI cJ cZ : ClassId) (a_this a_cube a_times a_bits a_colours a_laid a_takes a_choice a_isChosen a_column a_next a_barredAt a_ways a_own a_goes a_rowGoes a_mark a_count a_colour : Nat) (v_thrown : Int32) (v_columns : Int32) (v_needed : Int32) (v_rows : Int32) (v_cubes : Int32) (v_placements : Int32) (v_taken : Int32) (v_chosen : Int32) (v_nodes : Int32) (v_found : Int32) (v_isSpent : Int32) (v_told : Int32) (v_kept : Int32) (v_turns : Int32) (v_toldNodes : Int32) (v_cube : (Nat → Int32)) : va_W := [(a_this, .inr (6, [.int v_thrown, .int v_columns, .int v_needed, .ref a_times, .int v_rows, .ref a_bits, .ref a_colours, .int v_cubes, .ref a_cube, .ref a_laid, .int v_placements, .int v_taken, .ref a_takes, .int v_chosen, .ref a_choice, .ref a_isChosen, .ref a_column, .ref a_next, .ref a_barredAt, .int v_nodes, .int v_found, .int v_isSpent, .int v_told, .int v_kept, .ref a_ways, .ref a_own, .int v_turns, .ref a_goes, .ref a_rowGoes, .ref a_mark, .ref a_count, .ref a_colour, .int v_toldNodes])), (a_cube, .inl (cI, 7, .inl v_cube))]
abbrev rm_X5_placed : Room := { frames := 1, cells := 0, slots := 0, locals := 28 }
theorem lk_X5_placed_f104 : Cond.fieldLink RX5 104 "LinkedCoversModel" "cubes" "I" ∈ wsX5_placed := by decide +kernel
theorem lk_X5_placed_f19 : Cond.fieldLink RX5 19 "LinkedCoversModel" "cube" "[I" ∈ wsX5_placed := by decide +kernel
def f_X5_placed_119 (v_cubes : Int32) (v_cube : (Nat → Int32))   : Option (Int32 × Unit) :=
  some (((-1 : Int32), ()))
def f_X5_placed_6 (v_cubes : Int32) (v_cube : (Nat → Int32))  : Nat → Int32 → Int32 → Int32 → Int32 → Int32 → Int32 → Int32 → Int32 → Int32 → Int32 → Option (Int32 × Unit)
  | 0 => fun _ _ _ _ _ _ _ _ _ _ => none
  | n + 1 => fun x1 x2 x3 x4 x5 x6 x7 x8 x9 x10 => if v_cubes ≤ x10 then
  (some ((x9, ())))
  else
  (if (x10 < 0 ∨ 7 ≤ Int32.toNatClampNeg x10) then none else
  (f_X5_third x1 x2).bind (fun o_3 =>
  (f_X5_turned (v_cube (Int32.toNatClampNeg x10)) x1 x2 o_3.1 (0 : Int32)).bind (fun o_4 =>
  if (x10 < 0 ∨ 7 ≤ Int32.toNatClampNeg x10) then none else
  (f_X5_third x1 x2).bind (fun o_6 =>
  (f_X5_turned (v_cube (Int32.toNatClampNeg x10)) x1 x2 o_6.1 (1 : Int32)).bind (fun o_7 =>
  if (x10 < 0 ∨ 7 ≤ Int32.toNatClampNeg x10) then none else
  (f_X5_third x1 x2).bind (fun o_9 =>
  (f_X5_turned (v_cube (Int32.toNatClampNeg x10)) x1 x2 o_9.1 (2 : Int32)).bind (fun o_10 =>
  if (o_4.1 + x3) < 0 then
  (f_X5_placed_119 v_cubes v_cube )
  else
  (if x6 ≤ (o_4.1 + x3) then
  (f_X5_placed_119 v_cubes v_cube )
  else
  (if (o_7.1 + x4) < 0 then
  (f_X5_placed_119 v_cubes v_cube )
  else
  (if x7 ≤ (o_7.1 + x4) then
  (f_X5_placed_119 v_cubes v_cube )
  else
  (if (o_10.1 + x5) < 0 then
  (f_X5_placed_119 v_cubes v_cube )
  else
  (if (o_10.1 + x5) < x8 then
  (f_X5_placed_6 v_cubes v_cube n x1 x2 x3 x4 x5 x6 x7 x8 (x9 ||| ((1 : Int32) <<< (((o_4.1 + x3) + (x6 * ((o_7.1 + x4) + (x7 * (o_10.1 + x5))))) &&& 31))) (x10 + 1))
  else
  (f_X5_placed_119 v_cubes v_cube )))))))))))))
def f_X5_placed (v_cubes : Int32) (v_cube : (Nat → Int32))  (x1 : Int32) (x2 : Int32) (x3 : Int32) (x4 : Int32) (x5 : Int32) (x6 : Int32) (x7 : Int32) (x8 : Int32) : Option (Int32 × Unit) :=
  f_X5_placed_6 v_cubes v_cube 1000000 x1 x2 x3 x4 x5 x6 x7 x8 (0 : Int32) (0 : Int32)
abbrev qc_X5_placed (A : Nat → Prop) (dC : Nat → ClassId) (dI : Nat → Nat → Nat) (cB cI cJ cZ : ClassId) (a_this a_cube a_times a_bits a_colours a_laid a_takes a_choice a_isChosen a_column a_next a_barredAt a_ways a_own a_goes a_rowGoes a_mark a_count a_colour : Nat) (v_thrown : Int32) (v_columns : Int32) (v_needed : Int32) (v_rows : Int32) (v_cubes : Int32) (v_placements : Int32) (v_taken : Int32) (v_chosen : Int32) (v_nodes : Int32) (v_found : Int32) (v_isSpent : Int32) (v_told : Int32) (v_kept : Int32) (v_turns : Int32) (v_toldNodes : Int32) (v_cube : (Nat → Int32)) (out : Int32 × Unit) : Array Value → State → Outcome → State → Prop := va_Qi (fun (r : Int32) (u : Unit) => r = out.1 ∧ u = out.2) (fun (u : Unit) (t : State) => va_P (dC, dI) vwCl (ws_X5_placed cB cI cJ cZ a_this a_cube a_times a_bits a_colours a_laid a_takes a_choice a_isChosen a_column a_next a_barredAt a_ways a_own a_goes a_rowGoes a_mark a_count a_colour v_thrown v_columns v_needed v_rows v_cubes v_placements v_taken v_chosen v_nodes v_found v_isSpent v_told v_kept v_turns v_toldNodes v_cube) t.heap ∧ va_K (dC, dI) vwCl (tysG cB cI cJ cZ) t ∧ va_D A (ws_X5_placed cB cI cJ cZ a_this a_cube a_times a_bits a_colours a_laid a_takes a_choice a_isChosen a_column a_next a_barredAt a_ways a_own a_goes a_rowGoes a_mark a_count a_colour v_thrown v_columns v_needed v_rows v_cubes v_placements v_taken v_chosen v_nodes v_found v_isSpent v_told v_kept v_turns v_toldNodes v_cube)) A
abbrev g_X5_placed_119 (p : Program) (l : Launch) (e : Env) (s : State) (m : MethodId) (args : Array Value) (below : List Frame) (meth : Method) (c : Code) (A : Nat → Prop) (dC : Nat → ClassId) (dI : Nat → Nat → Nat) (cB cI cJ cZ : ClassId) (a_this a_cube a_times a_bits a_colours a_laid a_takes a_choice a_isChosen a_column a_next a_barredAt a_ways a_own a_goes a_rowGoes a_mark a_count a_colour : Nat) (v_thrown : Int32) (v_columns : Int32) (v_needed : Int32) (v_rows : Int32) (v_cubes : Int32) (v_placements : Int32) (v_taken : Int32) (v_chosen : Int32) (v_nodes : Int32) (v_found : Int32) (v_isSpent : Int32) (v_told : Int32) (v_kept : Int32) (v_turns : Int32) (v_toldNodes : Int32) (v_cube : (Nat → Int32)) (out : Int32 × Unit) (k : Option (Int32 × Unit)) : Prop := ∀ (_ : Unit), k = some out → ∀ (H : Heap) (locs : List Loc), va_P (dC, dI) vwCl (ws_X5_placed cB cI cJ cZ a_this a_cube a_times a_bits a_colours a_laid a_takes a_choice a_isChosen a_column a_next a_barredAt a_ways a_own a_goes a_rowGoes a_mark a_count a_colour v_thrown v_columns v_needed v_rows v_cubes v_placements v_taken v_chosen v_nodes v_found v_isSpent v_told v_kept v_turns v_toldNodes v_cube) H → va_D A (ws_X5_placed cB cI cJ cZ a_this a_cube a_times a_bits a_colours a_laid a_takes a_choice a_isChosen a_column a_next a_barredAt a_ways a_own a_goes a_rowGoes a_mark a_count a_colour v_thrown v_columns v_needed v_rows v_cubes v_placements v_taken v_chosen v_nodes v_found v_isSpent v_told v_kept v_turns v_toldNodes v_cube) → va_S A s.heap H locs → ∀ (ls : Array Slot), lv_has ls 14 [] → W p l e (headSpec wsX5_placed rm_X5_placed).room s m args below meth c H locs 0 0 (MQ below (qc_X5_placed A dC dI cB cI cJ cZ a_this a_cube a_times a_bits a_colours a_laid a_takes a_choice a_isChosen a_column a_next a_barredAt a_ways a_own a_goes a_rowGoes a_mark a_count a_colour v_thrown v_columns v_needed v_rows v_cubes v_placements v_taken v_chosen v_nodes v_found v_isSpent v_told v_kept v_turns v_toldNodes v_cube out) args s 0 0 A) (F0 m 119 ls [])
abbrev g_X5_placed_6 (p : Program) (l : Launch) (e : Env) (s : State) (m : MethodId) (args : Array Value) (below : List Frame) (meth : Method) (c : Code) (A : Nat → Prop) (dC : Nat → ClassId) (dI : Nat → Nat → Nat) (cB cI cJ cZ : ClassId) (a_this a_cube a_times a_bits a_colours a_laid a_takes a_choice a_isChosen a_column a_next a_barredAt a_ways a_own a_goes a_rowGoes a_mark a_count a_colour : Nat) (v_thrown : Int32) (v_columns : Int32) (v_needed : Int32) (v_rows : Int32) (v_cubes : Int32) (v_placements : Int32) (v_taken : Int32) (v_chosen : Int32) (v_nodes : Int32) (v_found : Int32) (v_isSpent : Int32) (v_told : Int32) (v_kept : Int32) (v_turns : Int32) (v_toldNodes : Int32) (v_cube : (Nat → Int32)) (out : Int32 × Unit) (k : Int32 → Int32 → Int32 → Int32 → Int32 → Int32 → Int32 → Int32 → Int32 → Int32 → Option (Int32 × Unit)) : Prop := ∀ (x1 : Int32) (x2 : Int32) (x3 : Int32) (x4 : Int32) (x5 : Int32) (x6 : Int32) (x7 : Int32) (x8 : Int32) (x9 : Int32) (x10 : Int32), k x1 x2 x3 x4 x5 x6 x7 x8 x9 x10 = some out → ∀ (H : Heap) (locs : List Loc), va_P (dC, dI) vwCl (ws_X5_placed cB cI cJ cZ a_this a_cube a_times a_bits a_colours a_laid a_takes a_choice a_isChosen a_column a_next a_barredAt a_ways a_own a_goes a_rowGoes a_mark a_count a_colour v_thrown v_columns v_needed v_rows v_cubes v_placements v_taken v_chosen v_nodes v_found v_isSpent v_told v_kept v_turns v_toldNodes v_cube) H → va_D A (ws_X5_placed cB cI cJ cZ a_this a_cube a_times a_bits a_colours a_laid a_takes a_choice a_isChosen a_column a_next a_barredAt a_ways a_own a_goes a_rowGoes a_mark a_count a_colour v_thrown v_columns v_needed v_rows v_cubes v_placements v_taken v_chosen v_nodes v_found v_isSpent v_told v_kept v_turns v_toldNodes v_cube) → va_S A s.heap H locs → ∀ (ls : Array Slot), lv_has ls 14 [(0, .ref a_this), (1, .int x1), (2, .int x2), (3, .int x3), (4, .int x4), (5, .int x5), (6, .int x6), (7, .int x7), (8, .int x8), (9, .int x9), (10, .int x10)] → W p l e (headSpec wsX5_placed rm_X5_placed).room s m args below meth c H locs 0 0 (MQ below (qc_X5_placed A dC dI cB cI cJ cZ a_this a_cube a_times a_bits a_colours a_laid a_takes a_choice a_isChosen a_column a_next a_barredAt a_ways a_own a_goes a_rowGoes a_mark a_count a_colour v_thrown v_columns v_needed v_rows v_cubes v_placements v_taken v_chosen v_nodes v_found v_isSpent v_told v_kept v_turns v_toldNodes v_cube out) args s 0 0 A) (F0 m 6 ls [])
abbrev g_X5_placed_0 (p : Program) (l : Launch) (e : Env) (s : State) (m : MethodId) (args : Array Value) (below : List Frame) (meth : Method) (c : Code) (A : Nat → Prop) (dC : Nat → ClassId) (dI : Nat → Nat → Nat) (cB cI cJ cZ : ClassId) (a_this a_cube a_times a_bits a_colours a_laid a_takes a_choice a_isChosen a_column a_next a_barredAt a_ways a_own a_goes a_rowGoes a_mark a_count a_colour : Nat) (v_thrown : Int32) (v_columns : Int32) (v_needed : Int32) (v_rows : Int32) (v_cubes : Int32) (v_placements : Int32) (v_taken : Int32) (v_chosen : Int32) (v_nodes : Int32) (v_found : Int32) (v_isSpent : Int32) (v_told : Int32) (v_kept : Int32) (v_turns : Int32) (v_toldNodes : Int32) (v_cube : (Nat → Int32)) (out : Int32 × Unit) (k : Int32 → Int32 → Int32 → Int32 → Int32 → Int32 → Int32 → Int32 → Option (Int32 × Unit)) : Prop := ∀ (x1 : Int32) (x2 : Int32) (x3 : Int32) (x4 : Int32) (x5 : Int32) (x6 : Int32) (x7 : Int32) (x8 : Int32), k x1 x2 x3 x4 x5 x6 x7 x8 = some out → ∀ (H : Heap) (locs : List Loc), va_P (dC, dI) vwCl (ws_X5_placed cB cI cJ cZ a_this a_cube a_times a_bits a_colours a_laid a_takes a_choice a_isChosen a_column a_next a_barredAt a_ways a_own a_goes a_rowGoes a_mark a_count a_colour v_thrown v_columns v_needed v_rows v_cubes v_placements v_taken v_chosen v_nodes v_found v_isSpent v_told v_kept v_turns v_toldNodes v_cube) H → va_D A (ws_X5_placed cB cI cJ cZ a_this a_cube a_times a_bits a_colours a_laid a_takes a_choice a_isChosen a_column a_next a_barredAt a_ways a_own a_goes a_rowGoes a_mark a_count a_colour v_thrown v_columns v_needed v_rows v_cubes v_placements v_taken v_chosen v_nodes v_found v_isSpent v_told v_kept v_turns v_toldNodes v_cube) → va_S A s.heap H locs → ∀ (ls : Array Slot), lv_has ls 14 [(0, .ref a_this), (1, .int x1), (2, .int x2), (3, .int x3), (4, .int x4), (5, .int x5), (6, .int x6), (7, .int x7), (8, .int x8)] → W p l e (headSpec wsX5_placed rm_X5_placed).room s m args below meth c H locs 0 0 (MQ below (qc_X5_placed A dC dI cB cI cJ cZ a_this a_cube a_times a_bits a_colours a_laid a_takes a_choice a_isChosen a_column a_next a_barredAt a_ways a_own a_goes a_rowGoes a_mark a_count a_colour v_thrown v_columns v_needed v_rows v_cubes v_placements v_taken v_chosen v_nodes v_found v_isSpent v_told v_kept v_turns v_toldNodes v_cube out) args s 0 0 A) (F0 m 0 ls [])
set_option maxHeartbeats 4000000 in
set_option maxRecDepth 100000 in
theorem w_X5_placed_119 {p : Program} {l : Launch} {e : Env} {s : State} {m : MethodId} {args : Array Value} {below : List Frame} {meth : Method} {c : Code} {A : Nat → Prop} {dC : Nat → ClassId} {dI : Nat → Nat → Nat} {cB cI cJ cZ : ClassId} {a_this a_cube a_times a_bits a_colours a_laid a_takes a_choice a_isChosen a_column a_next a_barredAt a_ways a_own a_goes a_rowGoes a_mark a_count a_colour : Nat} {v_thrown : Int32} {v_columns : Int32} {v_needed : Int32} {v_rows : Int32} {v_cubes : Int32} {v_placements : Int32} {v_taken : Int32} {v_chosen : Int32} {v_nodes : Int32} {v_found : Int32} {v_isSpent : Int32} {v_told : Int32} {v_kept : Int32} {v_turns : Int32} {v_toldNodes : Int32} {v_cube : (Nat → Int32)} {out : Int32 × Unit} (C0 : Cx RX5 cX5_placed (some .int) 14 wsX5_placed p s m args meth c A) (hK : va_K (dC, dI) vwCl (tysG cB cI cJ cZ) s)  : g_X5_placed_119 p l e s m args below meth c A dC dI cB cI cJ cZ a_this a_cube a_times a_bits a_colours a_laid a_takes a_choice a_isChosen a_column a_next a_barredAt a_ways a_own a_goes a_rowGoes a_mark a_count a_colour v_thrown v_columns v_needed v_rows v_cubes v_placements v_taken v_chosen v_nodes v_found v_isSpent v_told v_kept v_turns v_toldNodes v_cube out (f_X5_placed_119 v_cubes v_cube ) := by
  obtain ⟨hx, hb, hr, hml, hown, hts, hlocks, hA⟩ := id C0
  intro _ hf H locs hP hD hS ls hl
  replace hf : ((some (((-1 : Int32), ()))) : Option (Int32 × Unit)) = some out := hf
  refine lv_iconst (v := -1) hx hb dX5_placed_119 (by decide) ?_
  have h9 := Option.some.inj hf
  have h8 := congrArg Prod.fst h9
  have h7 := congrArg Prod.snd h9
  exact W.iret (v := (-1 : Int32)) hx hb hr (fun t ht hW => ⟨⟨(-1 : Int32), (), rfl, ⟨h8, h7⟩, by rw [ht]; exact hP, va_K.moved hW.alike hK, hD⟩, hS.F ht⟩) hS.2.2 dX5_placed_120
set_option maxHeartbeats 4000000 in
set_option maxRecDepth 100000 in
theorem w_X5_placed_6 {p : Program} {l : Launch} {e : Env} {s : State} {m : MethodId} {args : Array Value} {below : List Frame} {meth : Method} {c : Code} {A : Nat → Prop} {dC : Nat → ClassId} {dI : Nat → Nat → Nat} {cB cI cJ cZ : ClassId} {a_this a_cube a_times a_bits a_colours a_laid a_takes a_choice a_isChosen a_column a_next a_barredAt a_ways a_own a_goes a_rowGoes a_mark a_count a_colour : Nat} {v_thrown : Int32} {v_columns : Int32} {v_needed : Int32} {v_rows : Int32} {v_cubes : Int32} {v_placements : Int32} {v_taken : Int32} {v_chosen : Int32} {v_nodes : Int32} {v_found : Int32} {v_isSpent : Int32} {v_told : Int32} {v_kept : Int32} {v_turns : Int32} {v_toldNodes : Int32} {v_cube : (Nat → Int32)} {out : Int32 × Unit} (C0 : Cx RX5 cX5_placed (some .int) 14 wsX5_placed p s m args meth c A) (hK : va_K (dC, dI) vwCl (tysG cB cI cJ cZ) s)  : ∀ n : Nat, g_X5_placed_6 p l e s m args below meth c A dC dI cB cI cJ cZ a_this a_cube a_times a_bits a_colours a_laid a_takes a_choice a_isChosen a_column a_next a_barredAt a_ways a_own a_goes a_rowGoes a_mark a_count a_colour v_thrown v_columns v_needed v_rows v_cubes v_placements v_taken v_chosen v_nodes v_found v_isSpent v_told v_kept v_turns v_toldNodes v_cube out (f_X5_placed_6 v_cubes v_cube  n) := by
  obtain ⟨hx, hb, hr, hml, hown, hts, hlocks, hA⟩ := id C0
  intro n
  induction n with
  | zero =>
    intro x1 x2 x3 x4 x5 x6 x7 x8 x9 x10 hf H locs hP hD hS ls hl
    exact nomatch (show (none : Option (Int32 × Unit)) = some out from hf)
  | succ n ih =>
    intro x1 x2 x3 x4 x5 x6 x7 x8 x9 x10 hf H locs hP hD hS ls hl
    replace hf : ((if v_cubes ≤ x10 then
  (some ((x9, ())))
  else
  (if (x10 < 0 ∨ 7 ≤ Int32.toNatClampNeg x10) then none else
  (f_X5_third x1 x2).bind (fun o_3 =>
  (f_X5_turned (v_cube (Int32.toNatClampNeg x10)) x1 x2 o_3.1 (0 : Int32)).bind (fun o_4 =>
  if (x10 < 0 ∨ 7 ≤ Int32.toNatClampNeg x10) then none else
  (f_X5_third x1 x2).bind (fun o_6 =>
  (f_X5_turned (v_cube (Int32.toNatClampNeg x10)) x1 x2 o_6.1 (1 : Int32)).bind (fun o_7 =>
  if (x10 < 0 ∨ 7 ≤ Int32.toNatClampNeg x10) then none else
  (f_X5_third x1 x2).bind (fun o_9 =>
  (f_X5_turned (v_cube (Int32.toNatClampNeg x10)) x1 x2 o_9.1 (2 : Int32)).bind (fun o_10 =>
  if (o_4.1 + x3) < 0 then
  (f_X5_placed_119 v_cubes v_cube )
  else
  (if x6 ≤ (o_4.1 + x3) then
  (f_X5_placed_119 v_cubes v_cube )
  else
  (if (o_7.1 + x4) < 0 then
  (f_X5_placed_119 v_cubes v_cube )
  else
  (if x7 ≤ (o_7.1 + x4) then
  (f_X5_placed_119 v_cubes v_cube )
  else
  (if (o_10.1 + x5) < 0 then
  (f_X5_placed_119 v_cubes v_cube )
  else
  (if (o_10.1 + x5) < x8 then
  (f_X5_placed_6 v_cubes v_cube n x1 x2 x3 x4 x5 x6 x7 x8 (x9 ||| ((1 : Int32) <<< (((o_4.1 + x3) + (x6 * ((o_7.1 + x4) + (x7 * (o_10.1 + x5))))) &&& 31))) (x10 + 1))
  else
  (f_X5_placed_119 v_cubes v_cube )))))))))))))) : Option (Int32 × Unit)) = some out := hf
    refine lv_iload hx hb dX5_placed_6 (lv_at hl 10 rfl) ?_
    refine lv_aload_n hx hb dX5_placed_8 rfl (lv_at hl 0 rfl) ?_
    refine va_get (D := (dC, dI)) (ci := 6) (v := .int v_cubes) (C := RX5) (T := TX5) (N := 33) hx hb hts in_X5_placed_X5 hown hK hP 0 rfl rfl 7 (by decide) (hts (.fieldLink RX5 104 "LinkedCoversModel" "cubes" "I") lk_X5_placed_f104) (fun _ h9 => h9) rfl dX5_placed_9 ?_
    refine lv_icmp_ge (tgt := 148) hx hb dX5_placed_12 (by decide) (fun c_1 => ?_) (fun c_1 => ?_)
    · replace hf := (if_pos c_1).symm.trans hf
      refine lv_iload hx hb dX5_placed_148 (lv_at hl 9 rfl) ?_
      have h9 := Option.some.inj hf
      have h8 := congrArg Prod.fst h9
      have h7 := congrArg Prod.snd h9
      exact W.iret (v := x9) hx hb hr (fun t ht hW => ⟨⟨x9, (), rfl, ⟨h8, h7⟩, by rw [ht]; exact hP, va_K.moved hW.alike hK, hD⟩, hS.F ht⟩) hS.2.2 dX5_placed_150
    · replace hf := (if_neg c_1).symm.trans hf
      refine lv_aload_n hx hb dX5_placed_15 rfl (lv_at hl 0 rfl) ?_
      refine va_get (D := (dC, dI)) (ci := 6) (v := .ref a_cube) (C := RX5) (T := TX5) (N := 33) hx hb hts in_X5_placed_X5 hown hK hP 0 rfl rfl 8 (by decide) (hts (.fieldLink RX5 19 "LinkedCoversModel" "cube" "[I") lk_X5_placed_f19) (fun _ h9 => h9) rfl dX5_placed_16 ?_
      refine lv_iload hx hb dX5_placed_19 (lv_at hl 10 rfl) ?_
      obtain ⟨h_2, hf⟩ := gd_ck hf
      refine va_iald hx hb hK hP 1 1 rfl rfl h_2 dX5_placed_21 ?_
      refine lv_iload_n hx hb dX5_placed_22 rfl (lv_at hl 1 rfl) ?_
      refine lv_iload_n hx hb dX5_placed_23 rfl (lv_at hl 2 rfl) ?_
      refine lv_iload_n hx hb dX5_placed_24 rfl (lv_at hl 1 rfl) ?_
      refine lv_iload_n hx hb dX5_placed_25 rfl (lv_at hl 2 rfl) ?_
      obtain ⟨o_3, ho_3, hf⟩ := gd_bd hf
      have hPc := hP.sub (ws' := ws_X5_third cB cI cJ cZ  ) [] rfl
      have hDc := hD.sub (ws' := ws_X5_third cB cI cJ cZ  ) [] (by decide) rfl
      have hFc := va_free (wc := ws_X5_third cB cI cJ cZ  ) hD hS hA [] rfl
      refine va_calli (va_runS (As := [.int x1, .int x2]) (rest := [.int x2, .int x1, .int (v_cube (Int32.toNatClampNeg x10))]) ⟨hx, hb, hml, hown, hts⟩ (c_X5_third l dC dI cB cI cJ cZ H.size x1 x2 o_3 ho_3) (va_cwS 2 hts gX5_placed_X5_third rfl rfl rfl nd_X5_third ⟨Nat.le_of_ble_eq_true rfl, Nat.le_of_ble_eq_true rfl⟩) ⟨fun a U g mk q => by obtain ⟨q0, q1, qP, qK, qD⟩ := q; exact ⟨q0, q1, qP, va_K.moved (u := U) (U := U.calling g mk a) (Vm.Alike.refl U.vm) qK, qD⟩, fun U hU hW => ⟨rfl, by rw [hU], by rw [hU]; exact hPc, va_K.moved hW.alike hK, hDc.weaken (fun _ _ _ _ => trivial)⟩⟩ rfl rfl hl.1 rfl (lv_room (Nat.le_of_ble_eq_true rfl)) dX5_placed_26 ⟨Nat.le_of_ble_eq_true rfl, Nat.le_of_ble_eq_true rfl⟩) hS (fun q _ h => hFc q h) hFc (fun r_3 u_3 t H1 locs ht hvm hw hB hz1 hk1 hS => ?_)
      obtain ⟨rfl, rfl⟩ := hw
      obtain ⟨hP1, hK1, hD1⟩ := hB
      rw [ht] at hP1
      obtain ⟨hP, hD⟩ := va_join (wr := [(a_this, .inr (6, [.int v_thrown, .int v_columns, .int v_needed, .ref a_times, .int v_rows, .ref a_bits, .ref a_colours, .int v_cubes, .ref a_cube, .ref a_laid, .int v_placements, .int v_taken, .ref a_takes, .int v_chosen, .ref a_choice, .ref a_isChosen, .ref a_column, .ref a_next, .ref a_barredAt, .int v_nodes, .int v_found, .int v_isSpent, .int v_told, .int v_kept, .ref a_ways, .ref a_own, .int v_turns, .ref a_goes, .ref a_rowGoes, .ref a_mark, .ref a_count, .ref a_colour, .int v_toldNodes])), (a_cube, .inl (cI, 7, .inl v_cube))]) (w1 := ws_X5_third cB cI cJ cZ  ) hP hD [] [0, 1] rfl rfl (by decide) (by decide) hk1 hFc hP1 hD1
      generalize H1 = H at hP hS ⊢
      have hP : va_P (dC, dI) vwCl (ws_X5_placed cB cI cJ cZ a_this a_cube a_times a_bits a_colours a_laid a_takes a_choice a_isChosen a_column a_next a_barredAt a_ways a_own a_goes a_rowGoes a_mark a_count a_colour v_thrown v_columns v_needed v_rows v_cubes v_placements v_taken v_chosen v_nodes v_found v_isSpent v_told v_kept v_turns v_toldNodes v_cube) H := hP.sub [0, 1] rfl
      have hD : va_D A (ws_X5_placed cB cI cJ cZ a_this a_cube a_times a_bits a_colours a_laid a_takes a_choice a_isChosen a_column a_next a_barredAt a_ways a_own a_goes a_rowGoes a_mark a_count a_colour v_thrown v_columns v_needed v_rows v_cubes v_placements v_taken v_chosen v_nodes v_found v_isSpent v_told v_kept v_turns v_toldNodes v_cube) := hD.sub [0, 1] (by decide) rfl
      refine lv_iconst (v := 0) hx hb dX5_placed_29 (by decide) ?_
      obtain ⟨o_4, ho_4, hf⟩ := gd_bd hf
      have hPc := hP.sub (ws' := ws_X5_turned cB cI cJ cZ  ) [] rfl
      have hDc := hD.sub (ws' := ws_X5_turned cB cI cJ cZ  ) [] (by decide) rfl
      have hFc := va_free (wc := ws_X5_turned cB cI cJ cZ  ) hD hS hA [] rfl
      refine va_calli (va_runS (As := [.int (v_cube (Int32.toNatClampNeg x10)), .int x1, .int x2, .int o_3.1, .int (0 : Int32)]) (rest := []) ⟨hx, hb, hml, hown, hts⟩ (c_X5_turned l dC dI cB cI cJ cZ H.size (v_cube (Int32.toNatClampNeg x10)) x1 x2 o_3.1 (0 : Int32) o_4 ho_4) (va_cwS 5 hts gX5_placed_X5_turned rfl rfl rfl nd_X5_turned ⟨Nat.le_of_ble_eq_true rfl, Nat.le_of_ble_eq_true rfl⟩) ⟨fun a U g mk q => by obtain ⟨q0, q1, qP, qK, qD⟩ := q; exact ⟨q0, q1, qP, va_K.moved (u := U) (U := U.calling g mk a) (Vm.Alike.refl U.vm) qK, qD⟩, fun U hU hW => ⟨rfl, by rw [hU], by rw [hU]; exact hPc, va_K.moved hW.alike hK, hDc.weaken (fun _ _ _ _ => trivial)⟩⟩ rfl rfl hl.1 rfl (lv_room (Nat.le_of_ble_eq_true rfl)) dX5_placed_30 ⟨Nat.le_of_ble_eq_true rfl, Nat.le_of_ble_eq_true rfl⟩) hS (fun q _ h => hFc q h) hFc (fun r_4 u_4 t H1 locs ht hvm hw hB hz1 hk1 hS => ?_)
      obtain ⟨rfl, rfl⟩ := hw
      obtain ⟨hP1, hK1, hD1⟩ := hB
      rw [ht] at hP1
      obtain ⟨hP, hD⟩ := va_join (wr := [(a_this, .inr (6, [.int v_thrown, .int v_columns, .int v_needed, .ref a_times, .int v_rows, .ref a_bits, .ref a_colours, .int v_cubes, .ref a_cube, .ref a_laid, .int v_placements, .int v_taken, .ref a_takes, .int v_chosen, .ref a_choice, .ref a_isChosen, .ref a_column, .ref a_next, .ref a_barredAt, .int v_nodes, .int v_found, .int v_isSpent, .int v_told, .int v_kept, .ref a_ways, .ref a_own, .int v_turns, .ref a_goes, .ref a_rowGoes, .ref a_mark, .ref a_count, .ref a_colour, .int v_toldNodes])), (a_cube, .inl (cI, 7, .inl v_cube))]) (w1 := ws_X5_turned cB cI cJ cZ  ) hP hD [] [0, 1] rfl rfl (by decide) (by decide) hk1 hFc hP1 hD1
      generalize H1 = H at hP hS ⊢
      have hP : va_P (dC, dI) vwCl (ws_X5_placed cB cI cJ cZ a_this a_cube a_times a_bits a_colours a_laid a_takes a_choice a_isChosen a_column a_next a_barredAt a_ways a_own a_goes a_rowGoes a_mark a_count a_colour v_thrown v_columns v_needed v_rows v_cubes v_placements v_taken v_chosen v_nodes v_found v_isSpent v_told v_kept v_turns v_toldNodes v_cube) H := hP.sub [0, 1] rfl
      have hD : va_D A (ws_X5_placed cB cI cJ cZ a_this a_cube a_times a_bits a_colours a_laid a_takes a_choice a_isChosen a_column a_next a_barredAt a_ways a_own a_goes a_rowGoes a_mark a_count a_colour v_thrown v_columns v_needed v_rows v_cubes v_placements v_taken v_chosen v_nodes v_found v_isSpent v_told v_kept v_turns v_toldNodes v_cube) := hD.sub [0, 1] (by decide) rfl
      refine lv_iload_n hx hb dX5_placed_33 rfl (lv_at hl 3 rfl) ?_
      refine lv_iadd hx hb dX5_placed_34 ?_
      refine lv_istore (lv' := [(11, .int (o_4.1 + x3)), (0, .ref a_this), (1, .int x1), (2, .int x2), (3, .int x3), (4, .int x4), (5, .int x5), (6, .int x6), (7, .int x7), (8, .int x8), (9, .int x9), (10, .int x10)]) hx hb dX5_placed_35 hl (by decide) rfl (fun ls hl => ?_)
      refine lv_aload_n hx hb dX5_placed_37 rfl (lv_at hl 1 rfl) ?_
      refine va_get (D := (dC, dI)) (ci := 6) (v := .ref a_cube) (C := RX5) (T := TX5) (N := 33) hx hb hts in_X5_placed_X5 hown hK hP 0 rfl rfl 8 (by decide) (hts (.fieldLink RX5 19 "LinkedCoversModel" "cube" "[I") lk_X5_placed_f19) (fun _ h9 => h9) rfl dX5_placed_38 ?_
      refine lv_iload hx hb dX5_placed_41 (lv_at hl 11 rfl) ?_
      obtain ⟨h_5, hf⟩ := gd_ck hf
      refine va_iald hx hb hK hP 1 1 rfl rfl h_5 dX5_placed_43 ?_
      refine lv_iload_n hx hb dX5_placed_44 rfl (lv_at hl 2 rfl) ?_
      refine lv_iload_n hx hb dX5_placed_45 rfl (lv_at hl 3 rfl) ?_
      refine lv_iload_n hx hb dX5_placed_46 rfl (lv_at hl 2 rfl) ?_
      refine lv_iload_n hx hb dX5_placed_47 rfl (lv_at hl 3 rfl) ?_
      obtain ⟨o_6, ho_6, hf⟩ := gd_bd hf
      have hPc := hP.sub (ws' := ws_X5_third cB cI cJ cZ  ) [] rfl
      have hDc := hD.sub (ws' := ws_X5_third cB cI cJ cZ  ) [] (by decide) rfl
      have hFc := va_free (wc := ws_X5_third cB cI cJ cZ  ) hD hS hA [] rfl
      refine va_calli (va_runS (As := [.int x1, .int x2]) (rest := [.int x2, .int x1, .int (v_cube (Int32.toNatClampNeg x10))]) ⟨hx, hb, hml, hown, hts⟩ (c_X5_third l dC dI cB cI cJ cZ H.size x1 x2 o_6 ho_6) (va_cwS 2 hts gX5_placed_X5_third rfl rfl rfl nd_X5_third ⟨Nat.le_of_ble_eq_true rfl, Nat.le_of_ble_eq_true rfl⟩) ⟨fun a U g mk q => by obtain ⟨q0, q1, qP, qK, qD⟩ := q; exact ⟨q0, q1, qP, va_K.moved (u := U) (U := U.calling g mk a) (Vm.Alike.refl U.vm) qK, qD⟩, fun U hU hW => ⟨rfl, by rw [hU], by rw [hU]; exact hPc, va_K.moved hW.alike hK, hDc.weaken (fun _ _ _ _ => trivial)⟩⟩ rfl rfl hl.1 rfl (lv_room (Nat.le_of_ble_eq_true rfl)) dX5_placed_48 ⟨Nat.le_of_ble_eq_true rfl, Nat.le_of_ble_eq_true rfl⟩) hS (fun q _ h => hFc q h) hFc (fun r_6 u_6 t H1 locs ht hvm hw hB hz1 hk1 hS => ?_)
      obtain ⟨rfl, rfl⟩ := hw
      obtain ⟨hP1, hK1, hD1⟩ := hB
      rw [ht] at hP1
      obtain ⟨hP, hD⟩ := va_join (wr := [(a_this, .inr (6, [.int v_thrown, .int v_columns, .int v_needed, .ref a_times, .int v_rows, .ref a_bits, .ref a_colours, .int v_cubes, .ref a_cube, .ref a_laid, .int v_placements, .int v_taken, .ref a_takes, .int v_chosen, .ref a_choice, .ref a_isChosen, .ref a_column, .ref a_next, .ref a_barredAt, .int v_nodes, .int v_found, .int v_isSpent, .int v_told, .int v_kept, .ref a_ways, .ref a_own, .int v_turns, .ref a_goes, .ref a_rowGoes, .ref a_mark, .ref a_count, .ref a_colour, .int v_toldNodes])), (a_cube, .inl (cI, 7, .inl v_cube))]) (w1 := ws_X5_third cB cI cJ cZ  ) hP hD [] [0, 1] rfl rfl (by decide) (by decide) hk1 hFc hP1 hD1
      generalize H1 = H at hP hS ⊢
      have hP : va_P (dC, dI) vwCl (ws_X5_placed cB cI cJ cZ a_this a_cube a_times a_bits a_colours a_laid a_takes a_choice a_isChosen a_column a_next a_barredAt a_ways a_own a_goes a_rowGoes a_mark a_count a_colour v_thrown v_columns v_needed v_rows v_cubes v_placements v_taken v_chosen v_nodes v_found v_isSpent v_told v_kept v_turns v_toldNodes v_cube) H := hP.sub [0, 1] rfl
      have hD : va_D A (ws_X5_placed cB cI cJ cZ a_this a_cube a_times a_bits a_colours a_laid a_takes a_choice a_isChosen a_column a_next a_barredAt a_ways a_own a_goes a_rowGoes a_mark a_count a_colour v_thrown v_columns v_needed v_rows v_cubes v_placements v_taken v_chosen v_nodes v_found v_isSpent v_told v_kept v_turns v_toldNodes v_cube) := hD.sub [0, 1] (by decide) rfl
      refine lv_iconst (v := 1) hx hb dX5_placed_51 (by decide) ?_
      obtain ⟨o_7, ho_7, hf⟩ := gd_bd hf
      have hPc := hP.sub (ws' := ws_X5_turned cB cI cJ cZ  ) [] rfl
      have hDc := hD.sub (ws' := ws_X5_turned cB cI cJ cZ  ) [] (by decide) rfl
      have hFc := va_free (wc := ws_X5_turned cB cI cJ cZ  ) hD hS hA [] rfl
      refine va_calli (va_runS (As := [.int (v_cube (Int32.toNatClampNeg x10)), .int x1, .int x2, .int o_6.1, .int (1 : Int32)]) (rest := []) ⟨hx, hb, hml, hown, hts⟩ (c_X5_turned l dC dI cB cI cJ cZ H.size (v_cube (Int32.toNatClampNeg x10)) x1 x2 o_6.1 (1 : Int32) o_7 ho_7) (va_cwS 5 hts gX5_placed_X5_turned rfl rfl rfl nd_X5_turned ⟨Nat.le_of_ble_eq_true rfl, Nat.le_of_ble_eq_true rfl⟩) ⟨fun a U g mk q => by obtain ⟨q0, q1, qP, qK, qD⟩ := q; exact ⟨q0, q1, qP, va_K.moved (u := U) (U := U.calling g mk a) (Vm.Alike.refl U.vm) qK, qD⟩, fun U hU hW => ⟨rfl, by rw [hU], by rw [hU]; exact hPc, va_K.moved hW.alike hK, hDc.weaken (fun _ _ _ _ => trivial)⟩⟩ rfl rfl hl.1 rfl (lv_room (Nat.le_of_ble_eq_true rfl)) dX5_placed_52 ⟨Nat.le_of_ble_eq_true rfl, Nat.le_of_ble_eq_true rfl⟩) hS (fun q _ h => hFc q h) hFc (fun r_7 u_7 t H1 locs ht hvm hw hB hz1 hk1 hS => ?_)
      obtain ⟨rfl, rfl⟩ := hw
      obtain ⟨hP1, hK1, hD1⟩ := hB
      rw [ht] at hP1
      obtain ⟨hP, hD⟩ := va_join (wr := [(a_this, .inr (6, [.int v_thrown, .int v_columns, .int v_needed, .ref a_times, .int v_rows, .ref a_bits, .ref a_colours, .int v_cubes, .ref a_cube, .ref a_laid, .int v_placements, .int v_taken, .ref a_takes, .int v_chosen, .ref a_choice, .ref a_isChosen, .ref a_column, .ref a_next, .ref a_barredAt, .int v_nodes, .int v_found, .int v_isSpent, .int v_told, .int v_kept, .ref a_ways, .ref a_own, .int v_turns, .ref a_goes, .ref a_rowGoes, .ref a_mark, .ref a_count, .ref a_colour, .int v_toldNodes])), (a_cube, .inl (cI, 7, .inl v_cube))]) (w1 := ws_X5_turned cB cI cJ cZ  ) hP hD [] [0, 1] rfl rfl (by decide) (by decide) hk1 hFc hP1 hD1
      generalize H1 = H at hP hS ⊢
      have hP : va_P (dC, dI) vwCl (ws_X5_placed cB cI cJ cZ a_this a_cube a_times a_bits a_colours a_laid a_takes a_choice a_isChosen a_column a_next a_barredAt a_ways a_own a_goes a_rowGoes a_mark a_count a_colour v_thrown v_columns v_needed v_rows v_cubes v_placements v_taken v_chosen v_nodes v_found v_isSpent v_told v_kept v_turns v_toldNodes v_cube) H := hP.sub [0, 1] rfl
      have hD : va_D A (ws_X5_placed cB cI cJ cZ a_this a_cube a_times a_bits a_colours a_laid a_takes a_choice a_isChosen a_column a_next a_barredAt a_ways a_own a_goes a_rowGoes a_mark a_count a_colour v_thrown v_columns v_needed v_rows v_cubes v_placements v_taken v_chosen v_nodes v_found v_isSpent v_told v_kept v_turns v_toldNodes v_cube) := hD.sub [0, 1] (by decide) rfl
      refine lv_iload hx hb dX5_placed_55 (lv_at hl 5 rfl) ?_
      refine lv_iadd hx hb dX5_placed_57 ?_
      refine lv_istore (lv' := [(12, .int (o_7.1 + x4)), (11, .int (o_4.1 + x3)), (0, .ref a_this), (1, .int x1), (2, .int x2), (3, .int x3), (4, .int x4), (5, .int x5), (6, .int x6), (7, .int x7), (8, .int x8), (9, .int x9), (10, .int x10)]) hx hb dX5_placed_58 hl (by decide) rfl (fun ls hl => ?_)
      refine lv_aload_n hx hb dX5_placed_60 rfl (lv_at hl 2 rfl) ?_
      refine va_get (D := (dC, dI)) (ci := 6) (v := .ref a_cube) (C := RX5) (T := TX5) (N := 33) hx hb hts in_X5_placed_X5 hown hK hP 0 rfl rfl 8 (by decide) (hts (.fieldLink RX5 19 "LinkedCoversModel" "cube" "[I") lk_X5_placed_f19) (fun _ h9 => h9) rfl dX5_placed_61 ?_
      refine lv_iload hx hb dX5_placed_64 (lv_at hl 12 rfl) ?_
      obtain ⟨h_8, hf⟩ := gd_ck hf
      refine va_iald hx hb hK hP 1 1 rfl rfl h_8 dX5_placed_66 ?_
      refine lv_iload_n hx hb dX5_placed_67 rfl (lv_at hl 3 rfl) ?_
      refine lv_iload_n hx hb dX5_placed_68 rfl (lv_at hl 4 rfl) ?_
      refine lv_iload_n hx hb dX5_placed_69 rfl (lv_at hl 3 rfl) ?_
      refine lv_iload_n hx hb dX5_placed_70 rfl (lv_at hl 4 rfl) ?_
      obtain ⟨o_9, ho_9, hf⟩ := gd_bd hf
      have hPc := hP.sub (ws' := ws_X5_third cB cI cJ cZ  ) [] rfl
      have hDc := hD.sub (ws' := ws_X5_third cB cI cJ cZ  ) [] (by decide) rfl
      have hFc := va_free (wc := ws_X5_third cB cI cJ cZ  ) hD hS hA [] rfl
      refine va_calli (va_runS (As := [.int x1, .int x2]) (rest := [.int x2, .int x1, .int (v_cube (Int32.toNatClampNeg x10))]) ⟨hx, hb, hml, hown, hts⟩ (c_X5_third l dC dI cB cI cJ cZ H.size x1 x2 o_9 ho_9) (va_cwS 2 hts gX5_placed_X5_third rfl rfl rfl nd_X5_third ⟨Nat.le_of_ble_eq_true rfl, Nat.le_of_ble_eq_true rfl⟩) ⟨fun a U g mk q => by obtain ⟨q0, q1, qP, qK, qD⟩ := q; exact ⟨q0, q1, qP, va_K.moved (u := U) (U := U.calling g mk a) (Vm.Alike.refl U.vm) qK, qD⟩, fun U hU hW => ⟨rfl, by rw [hU], by rw [hU]; exact hPc, va_K.moved hW.alike hK, hDc.weaken (fun _ _ _ _ => trivial)⟩⟩ rfl rfl hl.1 rfl (lv_room (Nat.le_of_ble_eq_true rfl)) dX5_placed_71 ⟨Nat.le_of_ble_eq_true rfl, Nat.le_of_ble_eq_true rfl⟩) hS (fun q _ h => hFc q h) hFc (fun r_9 u_9 t H1 locs ht hvm hw hB hz1 hk1 hS => ?_)
      obtain ⟨rfl, rfl⟩ := hw
      obtain ⟨hP1, hK1, hD1⟩ := hB
      rw [ht] at hP1
      obtain ⟨hP, hD⟩ := va_join (wr := [(a_this, .inr (6, [.int v_thrown, .int v_columns, .int v_needed, .ref a_times, .int v_rows, .ref a_bits, .ref a_colours, .int v_cubes, .ref a_cube, .ref a_laid, .int v_placements, .int v_taken, .ref a_takes, .int v_chosen, .ref a_choice, .ref a_isChosen, .ref a_column, .ref a_next, .ref a_barredAt, .int v_nodes, .int v_found, .int v_isSpent, .int v_told, .int v_kept, .ref a_ways, .ref a_own, .int v_turns, .ref a_goes, .ref a_rowGoes, .ref a_mark, .ref a_count, .ref a_colour, .int v_toldNodes])), (a_cube, .inl (cI, 7, .inl v_cube))]) (w1 := ws_X5_third cB cI cJ cZ  ) hP hD [] [0, 1] rfl rfl (by decide) (by decide) hk1 hFc hP1 hD1
      generalize H1 = H at hP hS ⊢
      have hP : va_P (dC, dI) vwCl (ws_X5_placed cB cI cJ cZ a_this a_cube a_times a_bits a_colours a_laid a_takes a_choice a_isChosen a_column a_next a_barredAt a_ways a_own a_goes a_rowGoes a_mark a_count a_colour v_thrown v_columns v_needed v_rows v_cubes v_placements v_taken v_chosen v_nodes v_found v_isSpent v_told v_kept v_turns v_toldNodes v_cube) H := hP.sub [0, 1] rfl
      have hD : va_D A (ws_X5_placed cB cI cJ cZ a_this a_cube a_times a_bits a_colours a_laid a_takes a_choice a_isChosen a_column a_next a_barredAt a_ways a_own a_goes a_rowGoes a_mark a_count a_colour v_thrown v_columns v_needed v_rows v_cubes v_placements v_taken v_chosen v_nodes v_found v_isSpent v_told v_kept v_turns v_toldNodes v_cube) := hD.sub [0, 1] (by decide) rfl
      refine lv_iconst (v := 2) hx hb dX5_placed_74 (by decide) ?_
      obtain ⟨o_10, ho_10, hf⟩ := gd_bd hf
      have hPc := hP.sub (ws' := ws_X5_turned cB cI cJ cZ  ) [] rfl
      have hDc := hD.sub (ws' := ws_X5_turned cB cI cJ cZ  ) [] (by decide) rfl
      have hFc := va_free (wc := ws_X5_turned cB cI cJ cZ  ) hD hS hA [] rfl
      refine va_calli (va_runS (As := [.int (v_cube (Int32.toNatClampNeg x10)), .int x1, .int x2, .int o_9.1, .int (2 : Int32)]) (rest := []) ⟨hx, hb, hml, hown, hts⟩ (c_X5_turned l dC dI cB cI cJ cZ H.size (v_cube (Int32.toNatClampNeg x10)) x1 x2 o_9.1 (2 : Int32) o_10 ho_10) (va_cwS 5 hts gX5_placed_X5_turned rfl rfl rfl nd_X5_turned ⟨Nat.le_of_ble_eq_true rfl, Nat.le_of_ble_eq_true rfl⟩) ⟨fun a U g mk q => by obtain ⟨q0, q1, qP, qK, qD⟩ := q; exact ⟨q0, q1, qP, va_K.moved (u := U) (U := U.calling g mk a) (Vm.Alike.refl U.vm) qK, qD⟩, fun U hU hW => ⟨rfl, by rw [hU], by rw [hU]; exact hPc, va_K.moved hW.alike hK, hDc.weaken (fun _ _ _ _ => trivial)⟩⟩ rfl rfl hl.1 rfl (lv_room (Nat.le_of_ble_eq_true rfl)) dX5_placed_75 ⟨Nat.le_of_ble_eq_true rfl, Nat.le_of_ble_eq_true rfl⟩) hS (fun q _ h => hFc q h) hFc (fun r_10 u_10 t H1 locs ht hvm hw hB hz1 hk1 hS => ?_)
      obtain ⟨rfl, rfl⟩ := hw
      obtain ⟨hP1, hK1, hD1⟩ := hB
      rw [ht] at hP1
      obtain ⟨hP, hD⟩ := va_join (wr := [(a_this, .inr (6, [.int v_thrown, .int v_columns, .int v_needed, .ref a_times, .int v_rows, .ref a_bits, .ref a_colours, .int v_cubes, .ref a_cube, .ref a_laid, .int v_placements, .int v_taken, .ref a_takes, .int v_chosen, .ref a_choice, .ref a_isChosen, .ref a_column, .ref a_next, .ref a_barredAt, .int v_nodes, .int v_found, .int v_isSpent, .int v_told, .int v_kept, .ref a_ways, .ref a_own, .int v_turns, .ref a_goes, .ref a_rowGoes, .ref a_mark, .ref a_count, .ref a_colour, .int v_toldNodes])), (a_cube, .inl (cI, 7, .inl v_cube))]) (w1 := ws_X5_turned cB cI cJ cZ  ) hP hD [] [0, 1] rfl rfl (by decide) (by decide) hk1 hFc hP1 hD1
      generalize H1 = H at hP hS ⊢
      have hP : va_P (dC, dI) vwCl (ws_X5_placed cB cI cJ cZ a_this a_cube a_times a_bits a_colours a_laid a_takes a_choice a_isChosen a_column a_next a_barredAt a_ways a_own a_goes a_rowGoes a_mark a_count a_colour v_thrown v_columns v_needed v_rows v_cubes v_placements v_taken v_chosen v_nodes v_found v_isSpent v_told v_kept v_turns v_toldNodes v_cube) H := hP.sub [0, 1] rfl
      have hD : va_D A (ws_X5_placed cB cI cJ cZ a_this a_cube a_times a_bits a_colours a_laid a_takes a_choice a_isChosen a_column a_next a_barredAt a_ways a_own a_goes a_rowGoes a_mark a_count a_colour v_thrown v_columns v_needed v_rows v_cubes v_placements v_taken v_chosen v_nodes v_found v_isSpent v_told v_kept v_turns v_toldNodes v_cube) := hD.sub [0, 1] (by decide) rfl
      refine lv_iload hx hb dX5_placed_78 (lv_at hl 7 rfl) ?_
      refine lv_iadd hx hb dX5_placed_80 ?_
      refine lv_istore (lv' := [(13, .int (o_10.1 + x5)), (12, .int (o_7.1 + x4)), (11, .int (o_4.1 + x3)), (0, .ref a_this), (1, .int x1), (2, .int x2), (3, .int x3), (4, .int x4), (5, .int x5), (6, .int x6), (7, .int x7), (8, .int x8), (9, .int x9), (10, .int x10)]) hx hb dX5_placed_81 hl (by decide) rfl (fun ls hl => ?_)
      refine lv_iload hx hb dX5_placed_83 (lv_at hl 2 rfl) ?_
      refine lv_if_lt (tgt := 119) hx hb dX5_placed_85 (by decide) (fun c_11 => ?_) (fun c_11 => ?_)
      · replace hf := (if_pos c_11).symm.trans hf
        exact w_X5_placed_119 C0 hK () hf _ _ hP hD hS ls (lv_sub hl [] rfl)
      · replace hf := (if_neg c_11).symm.trans hf
        refine lv_iload hx hb dX5_placed_88 (lv_at hl 2 rfl) ?_
        refine lv_iload hx hb dX5_placed_90 (lv_at hl 9 rfl) ?_
        refine lv_icmp_ge (tgt := 119) hx hb dX5_placed_92 (by decide) (fun c_12 => ?_) (fun c_12 => ?_)
        · replace hf := (if_pos c_12).symm.trans hf
          exact w_X5_placed_119 C0 hK () hf _ _ hP hD hS ls (lv_sub hl [] rfl)
        · replace hf := (if_neg c_12).symm.trans hf
          refine lv_iload hx hb dX5_placed_95 (lv_at hl 1 rfl) ?_
          refine lv_if_lt (tgt := 119) hx hb dX5_placed_97 (by decide) (fun c_13 => ?_) (fun c_13 => ?_)
          · replace hf := (if_pos c_13).symm.trans hf
            exact w_X5_placed_119 C0 hK () hf _ _ hP hD hS ls (lv_sub hl [] rfl)
          · replace hf := (if_neg c_13).symm.trans hf
            refine lv_iload hx hb dX5_placed_100 (lv_at hl 1 rfl) ?_
            refine lv_iload hx hb dX5_placed_102 (lv_at hl 10 rfl) ?_
            refine lv_icmp_ge (tgt := 119) hx hb dX5_placed_104 (by decide) (fun c_14 => ?_) (fun c_14 => ?_)
            · replace hf := (if_pos c_14).symm.trans hf
              exact w_X5_placed_119 C0 hK () hf _ _ hP hD hS ls (lv_sub hl [] rfl)
            · replace hf := (if_neg c_14).symm.trans hf
              refine lv_iload hx hb dX5_placed_107 (lv_at hl 0 rfl) ?_
              refine lv_if_lt (tgt := 119) hx hb dX5_placed_109 (by decide) (fun c_15 => ?_) (fun c_15 => ?_)
              · replace hf := (if_pos c_15).symm.trans hf
                exact w_X5_placed_119 C0 hK () hf _ _ hP hD hS ls (lv_sub hl [] rfl)
              · replace hf := (if_neg c_15).symm.trans hf
                refine lv_iload hx hb dX5_placed_112 (lv_at hl 0 rfl) ?_
                refine lv_iload hx hb dX5_placed_114 (lv_at hl 11 rfl) ?_
                refine lv_icmp_lt (tgt := 121) hx hb dX5_placed_116 (by decide) (fun c_16 => ?_) (fun c_16 => ?_)
                · replace hf := (if_pos c_16).symm.trans hf
                  refine lv_iload hx hb dX5_placed_121 (lv_at hl 12 rfl) ?_
                  refine lv_iconst (v := 1) hx hb dX5_placed_123 (by decide) ?_
                  refine lv_iload hx hb dX5_placed_124 (lv_at hl 2 rfl) ?_
                  refine lv_iload hx hb dX5_placed_126 (lv_at hl 9 rfl) ?_
                  refine lv_iload hx hb dX5_placed_128 (lv_at hl 1 rfl) ?_
                  refine lv_iload hx hb dX5_placed_130 (lv_at hl 10 rfl) ?_
                  refine lv_iload hx hb dX5_placed_132 (lv_at hl 0 rfl) ?_
                  refine lv_imul hx hb dX5_placed_134 ?_
                  refine lv_iadd hx hb dX5_placed_135 ?_
                  refine lv_imul hx hb dX5_placed_136 ?_
                  refine lv_iadd hx hb dX5_placed_137 ?_
                  refine lv_ishl hx hb dX5_placed_138 ?_
                  refine lv_ior hx hb dX5_placed_139 ?_
                  refine lv_istore (lv' := [(9, .int (x9 ||| ((1 : Int32) <<< (((o_4.1 + x3) + (x6 * ((o_7.1 + x4) + (x7 * (o_10.1 + x5))))) &&& 31)))), (13, .int (o_10.1 + x5)), (12, .int (o_7.1 + x4)), (11, .int (o_4.1 + x3)), (0, .ref a_this), (1, .int x1), (2, .int x2), (3, .int x3), (4, .int x4), (5, .int x5), (6, .int x6), (7, .int x7), (8, .int x8), (10, .int x10)]) hx hb dX5_placed_140 hl (by decide) rfl (fun ls hl => ?_)
                  refine lv_iinc (v := (x10 + 1)) (lv' := [(10, .int (x10 + 1)), (9, .int (x9 ||| ((1 : Int32) <<< (((o_4.1 + x3) + (x6 * ((o_7.1 + x4) + (x7 * (o_10.1 + x5))))) &&& 31)))), (13, .int (o_10.1 + x5)), (12, .int (o_7.1 + x4)), (11, .int (o_4.1 + x3)), (0, .ref a_this), (1, .int x1), (2, .int x2), (3, .int x3), (4, .int x4), (5, .int x5), (6, .int x6), (7, .int x7), (8, .int x8)]) hx hb dX5_placed_142 hl (k := 13) rfl rfl (by decide) rfl (fun ls hl => ?_)
                  refine lv_goto (tgt := 6) hx hb dX5_placed_145 (by decide) ?_
                  exact ih x1 x2 x3 x4 x5 x6 x7 x8 (x9 ||| ((1 : Int32) <<< (((o_4.1 + x3) + (x6 * ((o_7.1 + x4) + (x7 * (o_10.1 + x5))))) &&& 31))) (x10 + 1) hf _ _ hP hD hS ls (lv_sub hl [5, 6, 7, 8, 9, 10, 11, 12, 13, 1, 0] rfl)
                · replace hf := (if_neg c_16).symm.trans hf
                  exact w_X5_placed_119 C0 hK () hf _ _ hP hD hS ls (lv_sub hl [] rfl)
set_option maxHeartbeats 4000000 in
set_option maxRecDepth 100000 in
theorem w_X5_placed_0 {p : Program} {l : Launch} {e : Env} {s : State} {m : MethodId} {args : Array Value} {below : List Frame} {meth : Method} {c : Code} {A : Nat → Prop} {dC : Nat → ClassId} {dI : Nat → Nat → Nat} {cB cI cJ cZ : ClassId} {a_this a_cube a_times a_bits a_colours a_laid a_takes a_choice a_isChosen a_column a_next a_barredAt a_ways a_own a_goes a_rowGoes a_mark a_count a_colour : Nat} {v_thrown : Int32} {v_columns : Int32} {v_needed : Int32} {v_rows : Int32} {v_cubes : Int32} {v_placements : Int32} {v_taken : Int32} {v_chosen : Int32} {v_nodes : Int32} {v_found : Int32} {v_isSpent : Int32} {v_told : Int32} {v_kept : Int32} {v_turns : Int32} {v_toldNodes : Int32} {v_cube : (Nat → Int32)} {out : Int32 × Unit} (C0 : Cx RX5 cX5_placed (some .int) 14 wsX5_placed p s m args meth c A) (hK : va_K (dC, dI) vwCl (tysG cB cI cJ cZ) s)  : g_X5_placed_0 p l e s m args below meth c A dC dI cB cI cJ cZ a_this a_cube a_times a_bits a_colours a_laid a_takes a_choice a_isChosen a_column a_next a_barredAt a_ways a_own a_goes a_rowGoes a_mark a_count a_colour v_thrown v_columns v_needed v_rows v_cubes v_placements v_taken v_chosen v_nodes v_found v_isSpent v_told v_kept v_turns v_toldNodes v_cube out (f_X5_placed v_cubes v_cube ) := by
  obtain ⟨hx, hb, hr, hml, hown, hts, hlocks, hA⟩ := id C0
  intro x1 x2 x3 x4 x5 x6 x7 x8 hf H locs hP hD hS ls hl
  replace hf : ((f_X5_placed_6 v_cubes v_cube 1000000 x1 x2 x3 x4 x5 x6 x7 x8 (0 : Int32) (0 : Int32)) : Option (Int32 × Unit)) = some out := hf
  refine lv_iconst (v := 0) hx hb dX5_placed_0 (by decide) ?_
  refine lv_istore (lv' := [(9, .int (0 : Int32)), (0, .ref a_this), (1, .int x1), (2, .int x2), (3, .int x3), (4, .int x4), (5, .int x5), (6, .int x6), (7, .int x7), (8, .int x8)]) hx hb dX5_placed_1 hl (by decide) rfl (fun ls hl => ?_)
  refine lv_iconst (v := 0) hx hb dX5_placed_3 (by decide) ?_
  refine lv_istore (lv' := [(10, .int (0 : Int32)), (9, .int (0 : Int32)), (0, .ref a_this), (1, .int x1), (2, .int x2), (3, .int x3), (4, .int x4), (5, .int x5), (6, .int x6), (7, .int x7), (8, .int x8)]) hx hb dX5_placed_4 hl (by decide) rfl (fun ls hl => ?_)
  exact w_X5_placed_6 C0 hK 1000000 x1 x2 x3 x4 x5 x6 x7 x8 (0 : Int32) (0 : Int32) hf _ _ hP hD hS ls (lv_sub hl [2, 3, 4, 5, 6, 7, 8, 9, 10, 1, 0] rfl)
theorem nd_X5_placed : yX5_placed.cls ≠ "java/lang/invoke/MethodHandle" ∧ yX5_placed.cls ≠ "java/lang/invoke/VarHandle" ∧ (parseMethodDescriptor yX5_placed.desc).map (fun d => d.parameters.length) = some 8 := by decide +kernel
set_option maxHeartbeats 4000000 in
set_option maxRecDepth 100000 in
theorem c_X5_placed (l : Launch) (dC : Nat → ClassId) (dI : Nat → Nat → Nat) (cB cI cJ cZ : ClassId) (a_this a_cube a_times a_bits a_colours a_laid a_takes a_choice a_isChosen a_column a_next a_barredAt a_ways a_own a_goes a_rowGoes a_mark a_count a_colour : Nat) (sz : Nat) (v_thrown : Int32) (v_columns : Int32) (v_needed : Int32) (v_rows : Int32) (v_cubes : Int32) (v_placements : Int32) (v_taken : Int32) (v_chosen : Int32) (v_nodes : Int32) (v_found : Int32) (v_isSpent : Int32) (v_told : Int32) (v_kept : Int32) (v_turns : Int32) (v_toldNodes : Int32) (v_cube : (Nat → Int32)) (x1 : Int32) (x2 : Int32) (x3 : Int32) (x4 : Int32) (x5 : Int32) (x6 : Int32) (x7 : Int32) (x8 : Int32) (out : Int32 × Unit) (hf : f_X5_placed v_cubes v_cube x1 x2 x3 x4 x5 x6 x7 x8 = some out) : Met l yX5_placed wsX5_placed rm_X5_placed (va_Pc [.ref a_this, .int x1, .int x2, .int x3, .int x4, .int x5, .int x6, .int x7, .int x8] (fun U => U.heap.size = sz ∧ va_P (dC, dI) vwCl (ws_X5_placed cB cI cJ cZ a_this a_cube a_times a_bits a_colours a_laid a_takes a_choice a_isChosen a_column a_next a_barredAt a_ways a_own a_goes a_rowGoes a_mark a_count a_colour v_thrown v_columns v_needed v_rows v_cubes v_placements v_taken v_chosen v_nodes v_found v_isSpent v_told v_kept v_turns v_toldNodes v_cube) U.heap ∧ va_K (dC, dI) vwCl (tysG cB cI cJ cZ) U ∧ va_D (fun _ => True) (ws_X5_placed cB cI cJ cZ a_this a_cube a_times a_bits a_colours a_laid a_takes a_choice a_isChosen a_column a_next a_barredAt a_ways a_own a_goes a_rowGoes a_mark a_count a_colour v_thrown v_columns v_needed v_rows v_cubes v_placements v_taken v_chosen v_nodes v_found v_isSpent v_told v_kept v_turns v_toldNodes v_cube))) (qc_X5_placed (va_A (ws_X5_placed cB cI cJ cZ a_this a_cube a_times a_bits a_colours a_laid a_takes a_choice a_isChosen a_column a_next a_barredAt a_ways a_own a_goes a_rowGoes a_mark a_count a_colour v_thrown v_columns v_needed v_rows v_cubes v_placements v_taken v_chosen v_nodes v_found v_isSpent v_told v_kept v_turns v_toldNodes v_cube) sz) dC dI cB cI cJ cZ a_this a_cube a_times a_bits a_colours a_laid a_takes a_choice a_isChosen a_column a_next a_barredAt a_ways a_own a_goes a_rowGoes a_mark a_count a_colour v_thrown v_columns v_needed v_rows v_cubes v_placements v_taken v_chosen v_nodes v_found v_isSpent v_told v_kept v_turns v_toldNodes v_cube out) 0 0 (va_A (ws_X5_placed cB cI cJ cZ a_this a_cube a_times a_bits a_colours a_laid a_takes a_choice a_isChosen a_column a_next a_barredAt a_ways a_own a_goes a_rowGoes a_mark a_count a_colour v_thrown v_columns v_needed v_rows v_cubes v_placements v_taken v_chosen v_nodes v_found v_isSpent v_told v_kept v_turns v_toldNodes v_cube) sz) := by
  refine Met.ofW (cc := cX5_placed) (maxL := 14) (ret := (some .int)) (by decide) rfl ?_
  intro p e s m args below meth c s₁ B hml hv
  obtain ⟨rfl, hsz, hP, hK, hD0⟩ := hv
  subst hsz
  have hD := hD0.self (sz := s.heap.size)
  generalize hAe : va_A (ws_X5_placed cB cI cJ cZ a_this a_cube a_times a_bits a_colours a_laid a_takes a_choice a_isChosen a_column a_next a_barredAt a_ways a_own a_goes a_rowGoes a_mark a_count a_colour v_thrown v_columns v_needed v_rows v_cubes v_placements v_taken v_chosen v_nodes v_found v_isSpent v_told v_kept v_turns v_toldNodes v_cube) s.heap.size = A at hD ⊢
  have hA : ∀ q : Nat, s.heap.size ≤ q → A q := fun q h => by rw [← hAe]; exact Or.inr h
  have hl := lv_entry ([.ref a_this, .int x1, .int x2, .int x3, .int x4, .int x5, .int x6, .int x7, .int x8]) (n := 14) (Nat.le_of_ble_eq_true rfl)
  rw [lg_entry_eq]
  generalize (lg_sl ([.ref a_this, .int x1, .int x2, .int x3, .int x4, .int x5, .int x6, .int x7, .int x8]) ++ List.replicate (14 - (lg_sl ([.ref a_this, .int x1, .int x2, .int x3, .int x4, .int x5, .int x6, .int x7, .int x8])).length) Slot.unset).toArray = ls at hl ⊢
  have hl : lv_has ls 14 [(0, .ref a_this), (1, .int x1), (2, .int x2), (3, .int x3), (4, .int x4), (5, .int x5), (6, .int x6), (7, .int x7), (8, .int x8)] := hl
  exact w_X5_placed_0 ⟨B.exec, B.bytes, B.returns, hml, findClass_of_methodNamed B.named, atoms_spec (ws := wsX5_placed) B.pre, B.notSynchronized, hA⟩ hK x1 x2 x3 x4 x5 x6 x7 x8 hf _ _ hP hD va_S.rf ls (lv_sub hl [0, 1, 2, 3, 4, 5, 6, 7, 8] rfl)
-- X5.lays(I)Z: 63 instructions
theorem in_X5_lays_X5 : ∀ w ∈ wsX50, w ∈ wsX5_lays := by decide +kernel
abbrev ws_X5_lays (cB cI cJ cZ : ClassId) (a_this a_laid a_times a_bits a_colours a_cube a_takes a_choice a_isChosen a_column a_next a_barredAt a_ways a_own a_goes a_rowGoes a_mark a_count a_colour : Nat) (v_thrown : Int32) (v_columns : Int32) (v_needed : Int32) (v_rows : Int32) (v_cubes : Int32) (v_placements : Int32) (v_taken : Int32) (v_chosen : Int32) (v_nodes : Int32) (v_found : Int32) (v_isSpent : Int32) (v_told : Int32) (v_kept : Int32) (v_turns : Int32) (v_toldNodes : Int32) (v_laid : (Nat → Int32)) : va_W := [(a_this, .inr (6, [.int v_thrown, .int v_columns, .int v_needed, .ref a_times, .int v_rows, .ref a_bits, .ref a_colours, .int v_cubes, .ref a_cube, .ref a_laid, .int v_placements, .int v_taken, .ref a_takes, .int v_chosen, .ref a_choice, .ref a_isChosen, .ref a_column, .ref a_next, .ref a_barredAt, .int v_nodes, .int v_found, .int v_isSpent, .int v_told, .int v_kept, .ref a_ways, .ref a_own, .int v_turns, .ref a_goes, .ref a_rowGoes, .ref a_mark, .ref a_count, .ref a_colour, .int v_toldNodes])), (a_laid, .inl (cI, 60, .inl v_laid))]
abbrev rm_X5_lays : Room := { frames := 0, cells := 0, slots := 0, locals := 0 }
theorem lk_X5_lays_f22 : Cond.fieldLink RX5 22 "LinkedCoversModel" "laid" "[I" ∈ wsX5_lays := by decide +kernel
theorem lk_X5_lays_f115 : Cond.fieldLink RX5 115 "LinkedCoversModel" "placements" "I" ∈ wsX5_lays := by decide +kernel
def f_X5_lays_62   : Nat → Int32 → (Nat → Int32) → Int32 → Int32 → Int32 → Option (Int32 × Int32 × (Nat → Int32))
  | 0 => fun _ _ _ _ _ => none
  | n + 1 => fun v_placements v_laid x1 x2 x3 => if x3 ≤ x2 then
  (if (x2 < 0 ∨ 60 ≤ Int32.toNatClampNeg x2) then none else
  some (((1 : Int32), ((v_placements + (1 : Int32)), (upd v_laid (Int32.toNatClampNeg x2) x1)))))
  else
  (if ((x3 - (1 : Int32)) < 0 ∨ 60 ≤ Int32.toNatClampNeg (x3 - (1 : Int32))) then none else
  if (x3 < 0 ∨ 60 ≤ Int32.toNatClampNeg x3) then none else
  f_X5_lays_62 n v_placements (upd v_laid (Int32.toNatClampNeg x3) (v_laid (Int32.toNatClampNeg (x3 - (1 : Int32))))) x1 x2 (x3 + (-1)))
def f_X5_lays_46   (v_placements : Int32) (v_laid : (Nat → Int32)) (x1 : Int32) (x2 : Int32) : Option (Int32 × Int32 × (Nat → Int32)) :=
  if v_placements = (60 : Int32) then
  (some (((0 : Int32), (v_placements, v_laid))))
  else
  (f_X5_lays_62 1000000 v_placements v_laid x1 x2 v_placements)
def f_X5_lays_26   (v_placements : Int32) (v_laid : (Nat → Int32)) (x1 : Int32) (x2 : Int32) : Option (Int32 × Int32 × (Nat → Int32)) :=
  if v_placements ≤ x2 then
  (f_X5_lays_46 v_placements v_laid x1 x2)
  else
  (if (x2 < 0 ∨ 60 ≤ Int32.toNatClampNeg x2) then none else
  if (v_laid (Int32.toNatClampNeg x2)) = x1 then
  (some (((1 : Int32), (v_placements, v_laid))))
  else
  (f_X5_lays_46 v_placements v_laid x1 x2))
def f_X5_lays_2   : Nat → Int32 → (Nat → Int32) → Int32 → Int32 → Option (Int32 × Int32 × (Nat → Int32))
  | 0 => fun _ _ _ _ => none
  | n + 1 => fun v_placements v_laid x1 x2 => if v_placements ≤ x2 then
  (f_X5_lays_26 v_placements v_laid x1 x2)
  else
  (if (x2 < 0 ∨ 60 ≤ Int32.toNatClampNeg x2) then none else
  if x1 ≤ (v_laid (Int32.toNatClampNeg x2)) then
  (f_X5_lays_26 v_placements v_laid x1 x2)
  else
  (f_X5_lays_2 n v_placements v_laid x1 (x2 + 1)))
def f_X5_lays   (v_placements : Int32) (v_laid : (Nat → Int32)) (x1 : Int32) : Option (Int32 × Int32 × (Nat → Int32)) :=
  f_X5_lays_2 1000000 v_placements v_laid x1 (0 : Int32)
abbrev qc_X5_lays (A : Nat → Prop) (dC : Nat → ClassId) (dI : Nat → Nat → Nat) (cB cI cJ cZ : ClassId) (a_this a_laid a_times a_bits a_colours a_cube a_takes a_choice a_isChosen a_column a_next a_barredAt a_ways a_own a_goes a_rowGoes a_mark a_count a_colour : Nat) (v_thrown : Int32) (v_columns : Int32) (v_needed : Int32) (v_rows : Int32) (v_cubes : Int32) (v_taken : Int32) (v_chosen : Int32) (v_nodes : Int32) (v_found : Int32) (v_isSpent : Int32) (v_told : Int32) (v_kept : Int32) (v_turns : Int32) (v_toldNodes : Int32) (out : Int32 × Int32 × (Nat → Int32)) : Array Value → State → Outcome → State → Prop := va_Qi (fun (r : Int32) (u : Int32 × (Nat → Int32)) => r = out.1 ∧ u = out.2) (fun (u : Int32 × (Nat → Int32)) (t : State) => va_P (dC, dI) vwCl (ws_X5_lays cB cI cJ cZ a_this a_laid a_times a_bits a_colours a_cube a_takes a_choice a_isChosen a_column a_next a_barredAt a_ways a_own a_goes a_rowGoes a_mark a_count a_colour v_thrown v_columns v_needed v_rows v_cubes u.1 v_taken v_chosen v_nodes v_found v_isSpent v_told v_kept v_turns v_toldNodes u.2) t.heap ∧ va_K (dC, dI) vwCl (tysG cB cI cJ cZ) t ∧ va_D A (ws_X5_lays cB cI cJ cZ a_this a_laid a_times a_bits a_colours a_cube a_takes a_choice a_isChosen a_column a_next a_barredAt a_ways a_own a_goes a_rowGoes a_mark a_count a_colour v_thrown v_columns v_needed v_rows v_cubes u.1 v_taken v_chosen v_nodes v_found v_isSpent v_told v_kept v_turns v_toldNodes u.2)) A
abbrev g_X5_lays_62 (p : Program) (l : Launch) (e : Env) (s : State) (m : MethodId) (args : Array Value) (below : List Frame) (meth : Method) (c : Code) (A : Nat → Prop) (dC : Nat → ClassId) (dI : Nat → Nat → Nat) (cB cI cJ cZ : ClassId) (a_this a_laid a_times a_bits a_colours a_cube a_takes a_choice a_isChosen a_column a_next a_barredAt a_ways a_own a_goes a_rowGoes a_mark a_count a_colour : Nat) (v_thrown : Int32) (v_columns : Int32) (v_needed : Int32) (v_rows : Int32) (v_cubes : Int32) (v_taken : Int32) (v_chosen : Int32) (v_nodes : Int32) (v_found : Int32) (v_isSpent : Int32) (v_told : Int32) (v_kept : Int32) (v_turns : Int32) (v_toldNodes : Int32) (out : Int32 × Int32 × (Nat → Int32)) (k : Int32 → (Nat → Int32) → Int32 → Int32 → Int32 → Option (Int32 × Int32 × (Nat → Int32))) : Prop := ∀ (v_placements : Int32) (v_laid : (Nat → Int32)) (x1 : Int32) (x2 : Int32) (x3 : Int32), k v_placements v_laid x1 x2 x3 = some out → ∀ (H : Heap) (locs : List Loc), va_P (dC, dI) vwCl (ws_X5_lays cB cI cJ cZ a_this a_laid a_times a_bits a_colours a_cube a_takes a_choice a_isChosen a_column a_next a_barredAt a_ways a_own a_goes a_rowGoes a_mark a_count a_colour v_thrown v_columns v_needed v_rows v_cubes v_placements v_taken v_chosen v_nodes v_found v_isSpent v_told v_kept v_turns v_toldNodes v_laid) H → va_D A (ws_X5_lays cB cI cJ cZ a_this a_laid a_times a_bits a_colours a_cube a_takes a_choice a_isChosen a_column a_next a_barredAt a_ways a_own a_goes a_rowGoes a_mark a_count a_colour v_thrown v_columns v_needed v_rows v_cubes v_placements v_taken v_chosen v_nodes v_found v_isSpent v_told v_kept v_turns v_toldNodes v_laid) → va_S A s.heap H locs → ∀ (ls : Array Slot), lv_has ls 4 [(0, .ref a_this), (1, .int x1), (2, .int x2), (3, .int x3)] → W p l e (headSpec wsX5_lays rm_X5_lays).room s m args below meth c H locs 0 0 (MQ below (qc_X5_lays A dC dI cB cI cJ cZ a_this a_laid a_times a_bits a_colours a_cube a_takes a_choice a_isChosen a_column a_next a_barredAt a_ways a_own a_goes a_rowGoes a_mark a_count a_colour v_thrown v_columns v_needed v_rows v_cubes v_taken v_chosen v_nodes v_found v_isSpent v_told v_kept v_turns v_toldNodes out) args s 0 0 A) (F0 m 62 ls [])
abbrev g_X5_lays_46 (p : Program) (l : Launch) (e : Env) (s : State) (m : MethodId) (args : Array Value) (below : List Frame) (meth : Method) (c : Code) (A : Nat → Prop) (dC : Nat → ClassId) (dI : Nat → Nat → Nat) (cB cI cJ cZ : ClassId) (a_this a_laid a_times a_bits a_colours a_cube a_takes a_choice a_isChosen a_column a_next a_barredAt a_ways a_own a_goes a_rowGoes a_mark a_count a_colour : Nat) (v_thrown : Int32) (v_columns : Int32) (v_needed : Int32) (v_rows : Int32) (v_cubes : Int32) (v_taken : Int32) (v_chosen : Int32) (v_nodes : Int32) (v_found : Int32) (v_isSpent : Int32) (v_told : Int32) (v_kept : Int32) (v_turns : Int32) (v_toldNodes : Int32) (out : Int32 × Int32 × (Nat → Int32)) (k : Int32 → (Nat → Int32) → Int32 → Int32 → Option (Int32 × Int32 × (Nat → Int32))) : Prop := ∀ (v_placements : Int32) (v_laid : (Nat → Int32)) (x1 : Int32) (x2 : Int32), k v_placements v_laid x1 x2 = some out → ∀ (H : Heap) (locs : List Loc), va_P (dC, dI) vwCl (ws_X5_lays cB cI cJ cZ a_this a_laid a_times a_bits a_colours a_cube a_takes a_choice a_isChosen a_column a_next a_barredAt a_ways a_own a_goes a_rowGoes a_mark a_count a_colour v_thrown v_columns v_needed v_rows v_cubes v_placements v_taken v_chosen v_nodes v_found v_isSpent v_told v_kept v_turns v_toldNodes v_laid) H → va_D A (ws_X5_lays cB cI cJ cZ a_this a_laid a_times a_bits a_colours a_cube a_takes a_choice a_isChosen a_column a_next a_barredAt a_ways a_own a_goes a_rowGoes a_mark a_count a_colour v_thrown v_columns v_needed v_rows v_cubes v_placements v_taken v_chosen v_nodes v_found v_isSpent v_told v_kept v_turns v_toldNodes v_laid) → va_S A s.heap H locs → ∀ (ls : Array Slot), lv_has ls 4 [(0, .ref a_this), (1, .int x1), (2, .int x2)] → W p l e (headSpec wsX5_lays rm_X5_lays).room s m args below meth c H locs 0 0 (MQ below (qc_X5_lays A dC dI cB cI cJ cZ a_this a_laid a_times a_bits a_colours a_cube a_takes a_choice a_isChosen a_column a_next a_barredAt a_ways a_own a_goes a_rowGoes a_mark a_count a_colour v_thrown v_columns v_needed v_rows v_cubes v_taken v_chosen v_nodes v_found v_isSpent v_told v_kept v_turns v_toldNodes out) args s 0 0 A) (F0 m 46 ls [])
abbrev g_X5_lays_26 (p : Program) (l : Launch) (e : Env) (s : State) (m : MethodId) (args : Array Value) (below : List Frame) (meth : Method) (c : Code) (A : Nat → Prop) (dC : Nat → ClassId) (dI : Nat → Nat → Nat) (cB cI cJ cZ : ClassId) (a_this a_laid a_times a_bits a_colours a_cube a_takes a_choice a_isChosen a_column a_next a_barredAt a_ways a_own a_goes a_rowGoes a_mark a_count a_colour : Nat) (v_thrown : Int32) (v_columns : Int32) (v_needed : Int32) (v_rows : Int32) (v_cubes : Int32) (v_taken : Int32) (v_chosen : Int32) (v_nodes : Int32) (v_found : Int32) (v_isSpent : Int32) (v_told : Int32) (v_kept : Int32) (v_turns : Int32) (v_toldNodes : Int32) (out : Int32 × Int32 × (Nat → Int32)) (k : Int32 → (Nat → Int32) → Int32 → Int32 → Option (Int32 × Int32 × (Nat → Int32))) : Prop := ∀ (v_placements : Int32) (v_laid : (Nat → Int32)) (x1 : Int32) (x2 : Int32), k v_placements v_laid x1 x2 = some out → ∀ (H : Heap) (locs : List Loc), va_P (dC, dI) vwCl (ws_X5_lays cB cI cJ cZ a_this a_laid a_times a_bits a_colours a_cube a_takes a_choice a_isChosen a_column a_next a_barredAt a_ways a_own a_goes a_rowGoes a_mark a_count a_colour v_thrown v_columns v_needed v_rows v_cubes v_placements v_taken v_chosen v_nodes v_found v_isSpent v_told v_kept v_turns v_toldNodes v_laid) H → va_D A (ws_X5_lays cB cI cJ cZ a_this a_laid a_times a_bits a_colours a_cube a_takes a_choice a_isChosen a_column a_next a_barredAt a_ways a_own a_goes a_rowGoes a_mark a_count a_colour v_thrown v_columns v_needed v_rows v_cubes v_placements v_taken v_chosen v_nodes v_found v_isSpent v_told v_kept v_turns v_toldNodes v_laid) → va_S A s.heap H locs → ∀ (ls : Array Slot), lv_has ls 4 [(0, .ref a_this), (1, .int x1), (2, .int x2)] → W p l e (headSpec wsX5_lays rm_X5_lays).room s m args below meth c H locs 0 0 (MQ below (qc_X5_lays A dC dI cB cI cJ cZ a_this a_laid a_times a_bits a_colours a_cube a_takes a_choice a_isChosen a_column a_next a_barredAt a_ways a_own a_goes a_rowGoes a_mark a_count a_colour v_thrown v_columns v_needed v_rows v_cubes v_taken v_chosen v_nodes v_found v_isSpent v_told v_kept v_turns v_toldNodes out) args s 0 0 A) (F0 m 26 ls [])
abbrev g_X5_lays_2 (p : Program) (l : Launch) (e : Env) (s : State) (m : MethodId) (args : Array Value) (below : List Frame) (meth : Method) (c : Code) (A : Nat → Prop) (dC : Nat → ClassId) (dI : Nat → Nat → Nat) (cB cI cJ cZ : ClassId) (a_this a_laid a_times a_bits a_colours a_cube a_takes a_choice a_isChosen a_column a_next a_barredAt a_ways a_own a_goes a_rowGoes a_mark a_count a_colour : Nat) (v_thrown : Int32) (v_columns : Int32) (v_needed : Int32) (v_rows : Int32) (v_cubes : Int32) (v_taken : Int32) (v_chosen : Int32) (v_nodes : Int32) (v_found : Int32) (v_isSpent : Int32) (v_told : Int32) (v_kept : Int32) (v_turns : Int32) (v_toldNodes : Int32) (out : Int32 × Int32 × (Nat → Int32)) (k : Int32 → (Nat → Int32) → Int32 → Int32 → Option (Int32 × Int32 × (Nat → Int32))) : Prop := ∀ (v_placements : Int32) (v_laid : (Nat → Int32)) (x1 : Int32) (x2 : Int32), k v_placements v_laid x1 x2 = some out → ∀ (H : Heap) (locs : List Loc), va_P (dC, dI) vwCl (ws_X5_lays cB cI cJ cZ a_this a_laid a_times a_bits a_colours a_cube a_takes a_choice a_isChosen a_column a_next a_barredAt a_ways a_own a_goes a_rowGoes a_mark a_count a_colour v_thrown v_columns v_needed v_rows v_cubes v_placements v_taken v_chosen v_nodes v_found v_isSpent v_told v_kept v_turns v_toldNodes v_laid) H → va_D A (ws_X5_lays cB cI cJ cZ a_this a_laid a_times a_bits a_colours a_cube a_takes a_choice a_isChosen a_column a_next a_barredAt a_ways a_own a_goes a_rowGoes a_mark a_count a_colour v_thrown v_columns v_needed v_rows v_cubes v_placements v_taken v_chosen v_nodes v_found v_isSpent v_told v_kept v_turns v_toldNodes v_laid) → va_S A s.heap H locs → ∀ (ls : Array Slot), lv_has ls 4 [(0, .ref a_this), (1, .int x1), (2, .int x2)] → W p l e (headSpec wsX5_lays rm_X5_lays).room s m args below meth c H locs 0 0 (MQ below (qc_X5_lays A dC dI cB cI cJ cZ a_this a_laid a_times a_bits a_colours a_cube a_takes a_choice a_isChosen a_column a_next a_barredAt a_ways a_own a_goes a_rowGoes a_mark a_count a_colour v_thrown v_columns v_needed v_rows v_cubes v_taken v_chosen v_nodes v_found v_isSpent v_told v_kept v_turns v_toldNodes out) args s 0 0 A) (F0 m 2 ls [])
abbrev g_X5_lays_0 (p : Program) (l : Launch) (e : Env) (s : State) (m : MethodId) (args : Array Value) (below : List Frame) (meth : Method) (c : Code) (A : Nat → Prop) (dC : Nat → ClassId) (dI : Nat → Nat → Nat) (cB cI cJ cZ : ClassId) (a_this a_laid a_times a_bits a_colours a_cube a_takes a_choice a_isChosen a_column a_next a_barredAt a_ways a_own a_goes a_rowGoes a_mark a_count a_colour : Nat) (v_thrown : Int32) (v_columns : Int32) (v_needed : Int32) (v_rows : Int32) (v_cubes : Int32) (v_taken : Int32) (v_chosen : Int32) (v_nodes : Int32) (v_found : Int32) (v_isSpent : Int32) (v_told : Int32) (v_kept : Int32) (v_turns : Int32) (v_toldNodes : Int32) (out : Int32 × Int32 × (Nat → Int32)) (k : Int32 → (Nat → Int32) → Int32 → Option (Int32 × Int32 × (Nat → Int32))) : Prop := ∀ (v_placements : Int32) (v_laid : (Nat → Int32)) (x1 : Int32), k v_placements v_laid x1 = some out → ∀ (H : Heap) (locs : List Loc), va_P (dC, dI) vwCl (ws_X5_lays cB cI cJ cZ a_this a_laid a_times a_bits a_colours a_cube a_takes a_choice a_isChosen a_column a_next a_barredAt a_ways a_own a_goes a_rowGoes a_mark a_count a_colour v_thrown v_columns v_needed v_rows v_cubes v_placements v_taken v_chosen v_nodes v_found v_isSpent v_told v_kept v_turns v_toldNodes v_laid) H → va_D A (ws_X5_lays cB cI cJ cZ a_this a_laid a_times a_bits a_colours a_cube a_takes a_choice a_isChosen a_column a_next a_barredAt a_ways a_own a_goes a_rowGoes a_mark a_count a_colour v_thrown v_columns v_needed v_rows v_cubes v_placements v_taken v_chosen v_nodes v_found v_isSpent v_told v_kept v_turns v_toldNodes v_laid) → va_S A s.heap H locs → ∀ (ls : Array Slot), lv_has ls 4 [(0, .ref a_this), (1, .int x1)] → W p l e (headSpec wsX5_lays rm_X5_lays).room s m args below meth c H locs 0 0 (MQ below (qc_X5_lays A dC dI cB cI cJ cZ a_this a_laid a_times a_bits a_colours a_cube a_takes a_choice a_isChosen a_column a_next a_barredAt a_ways a_own a_goes a_rowGoes a_mark a_count a_colour v_thrown v_columns v_needed v_rows v_cubes v_taken v_chosen v_nodes v_found v_isSpent v_told v_kept v_turns v_toldNodes out) args s 0 0 A) (F0 m 0 ls [])
set_option maxHeartbeats 4000000 in
set_option maxRecDepth 100000 in
theorem w_X5_lays_62 {p : Program} {l : Launch} {e : Env} {s : State} {m : MethodId} {args : Array Value} {below : List Frame} {meth : Method} {c : Code} {A : Nat → Prop} {dC : Nat → ClassId} {dI : Nat → Nat → Nat} {cB cI cJ cZ : ClassId} {a_this a_laid a_times a_bits a_colours a_cube a_takes a_choice a_isChosen a_column a_next a_barredAt a_ways a_own a_goes a_rowGoes a_mark a_count a_colour : Nat} {v_thrown : Int32} {v_columns : Int32} {v_needed : Int32} {v_rows : Int32} {v_cubes : Int32} {v_taken : Int32} {v_chosen : Int32} {v_nodes : Int32} {v_found : Int32} {v_isSpent : Int32} {v_told : Int32} {v_kept : Int32} {v_turns : Int32} {v_toldNodes : Int32} {out : Int32 × Int32 × (Nat → Int32)} (C0 : Cx RX5 cX5_lays (some .boolean) 4 wsX5_lays p s m args meth c A) (hK : va_K (dC, dI) vwCl (tysG cB cI cJ cZ) s)  : ∀ n : Nat, g_X5_lays_62 p l e s m args below meth c A dC dI cB cI cJ cZ a_this a_laid a_times a_bits a_colours a_cube a_takes a_choice a_isChosen a_column a_next a_barredAt a_ways a_own a_goes a_rowGoes a_mark a_count a_colour v_thrown v_columns v_needed v_rows v_cubes v_taken v_chosen v_nodes v_found v_isSpent v_told v_kept v_turns v_toldNodes out (f_X5_lays_62   n) := by
  obtain ⟨hx, hb, hr, hml, hown, hts, hlocks, hA⟩ := id C0
  intro n
  induction n with
  | zero =>
    intro v_placements v_laid x1 x2 x3 hf H locs hP hD hS ls hl
    exact nomatch (show (none : Option (Int32 × Int32 × (Nat → Int32))) = some out from hf)
  | succ n ih =>
    intro v_placements v_laid x1 x2 x3 hf H locs hP hD hS ls hl
    replace hf : ((if x3 ≤ x2 then
  (if (x2 < 0 ∨ 60 ≤ Int32.toNatClampNeg x2) then none else
  some (((1 : Int32), ((v_placements + (1 : Int32)), (upd v_laid (Int32.toNatClampNeg x2) x1)))))
  else
  (if ((x3 - (1 : Int32)) < 0 ∨ 60 ≤ Int32.toNatClampNeg (x3 - (1 : Int32))) then none else
  if (x3 < 0 ∨ 60 ≤ Int32.toNatClampNeg x3) then none else
  f_X5_lays_62 n v_placements (upd v_laid (Int32.toNatClampNeg x3) (v_laid (Int32.toNatClampNeg (x3 - (1 : Int32))))) x1 x2 (x3 + (-1)))) : Option (Int32 × Int32 × (Nat → Int32))) = some out := hf
    refine lv_iload_n hx hb dX5_lays_62 rfl (lv_at hl 3 rfl) ?_
    refine lv_iload_n hx hb dX5_lays_63 rfl (lv_at hl 2 rfl) ?_
    refine lv_icmp_le (tgt := 87) hx hb dX5_lays_64 (by decide) (fun c_1 => ?_) (fun c_1 => ?_)
    · replace hf := (if_pos c_1).symm.trans hf
      refine lv_aload_n hx hb dX5_lays_87 rfl (lv_at hl 0 rfl) ?_
      refine va_get (D := (dC, dI)) (ci := 6) (v := .ref a_laid) (C := RX5) (T := TX5) (N := 33) hx hb hts in_X5_lays_X5 hown hK hP 0 rfl rfl 9 (by decide) (hts (.fieldLink RX5 22 "LinkedCoversModel" "laid" "[I") lk_X5_lays_f22) (fun _ h9 => h9) rfl dX5_lays_88 ?_
      refine lv_iload_n hx hb dX5_lays_91 rfl (lv_at hl 2 rfl) ?_
      refine lv_iload_n hx hb dX5_lays_92 rfl (lv_at hl 1 rfl) ?_
      obtain ⟨h_2, hf⟩ := gd_ck hf
      refine va_iast hx hb hK hP hD hS 1 1 rfl rfl h_2 dX5_lays_93 (fun H locs hP hD hS => ?_)
      have hP : va_P (dC, dI) vwCl (ws_X5_lays cB cI cJ cZ a_this a_laid a_times a_bits a_colours a_cube a_takes a_choice a_isChosen a_column a_next a_barredAt a_ways a_own a_goes a_rowGoes a_mark a_count a_colour v_thrown v_columns v_needed v_rows v_cubes v_placements v_taken v_chosen v_nodes v_found v_isSpent v_told v_kept v_turns v_toldNodes (upd v_laid (Int32.toNatClampNeg x2) x1)) H := hP
      have hD : va_D A (ws_X5_lays cB cI cJ cZ a_this a_laid a_times a_bits a_colours a_cube a_takes a_choice a_isChosen a_column a_next a_barredAt a_ways a_own a_goes a_rowGoes a_mark a_count a_colour v_thrown v_columns v_needed v_rows v_cubes v_placements v_taken v_chosen v_nodes v_found v_isSpent v_told v_kept v_turns v_toldNodes (upd v_laid (Int32.toNatClampNeg x2) x1)) := hD
      refine lv_aload_n hx hb dX5_lays_94 rfl (lv_at hl 0 rfl) ?_
      refine lv_dup hx hb dX5_lays_95 rfl ?_
      refine va_get (D := (dC, dI)) (ci := 6) (v := .int v_placements) (C := RX5) (T := TX5) (N := 33) hx hb hts in_X5_lays_X5 hown hK hP 0 rfl rfl 10 (by decide) (hts (.fieldLink RX5 115 "LinkedCoversModel" "placements" "I") lk_X5_lays_f115) (fun _ h9 => h9) rfl dX5_lays_96 ?_
      refine lv_iconst (v := 1) hx hb dX5_lays_99 (by decide) ?_
      refine lv_iadd hx hb dX5_lays_100 ?_
      refine va_put (D := (dC, dI)) (ci := 6) (v := .int (v_placements + (1 : Int32))) (ty := .int) (C := RX5) (T := TX5) (N := 33) hx hb hts in_X5_lays_X5 tyX5 tyX5_ok nmX5 hown hK hP hD hS 0 rfl rfl 10 (by decide) (hts (.fieldLink RX5 115 "LinkedCoversModel" "placements" "I") lk_X5_lays_f115) (fun _ h9 => h9) rfl (by decide +kernel) rfl rfl (Nat.le_of_ble_eq_true rfl) dX5_lays_101 (fun H locs hP hD hS => ?_)
      have hP : va_P (dC, dI) vwCl (ws_X5_lays cB cI cJ cZ a_this a_laid a_times a_bits a_colours a_cube a_takes a_choice a_isChosen a_column a_next a_barredAt a_ways a_own a_goes a_rowGoes a_mark a_count a_colour v_thrown v_columns v_needed v_rows v_cubes (v_placements + (1 : Int32)) v_taken v_chosen v_nodes v_found v_isSpent v_told v_kept v_turns v_toldNodes (upd v_laid (Int32.toNatClampNeg x2) x1)) H := hP
      have hD : va_D A (ws_X5_lays cB cI cJ cZ a_this a_laid a_times a_bits a_colours a_cube a_takes a_choice a_isChosen a_column a_next a_barredAt a_ways a_own a_goes a_rowGoes a_mark a_count a_colour v_thrown v_columns v_needed v_rows v_cubes (v_placements + (1 : Int32)) v_taken v_chosen v_nodes v_found v_isSpent v_told v_kept v_turns v_toldNodes (upd v_laid (Int32.toNatClampNeg x2) x1)) := hD
      refine lv_iconst (v := 1) hx hb dX5_lays_104 (by decide) ?_
      have h9 := Option.some.inj hf
      have h8 := congrArg Prod.fst h9
      have h7 := congrArg Prod.snd h9
      exact W.zret (v := (1 : Int32)) hx hb hr rfl (fun t ht hW => ⟨⟨(1 : Int32), ((v_placements + (1 : Int32)), (upd v_laid (Int32.toNatClampNeg x2) x1)), rfl, ⟨h8, h7⟩, by rw [ht]; exact hP, va_K.moved hW.alike hK, hD⟩, hS.F ht⟩) hS.2.2 dX5_lays_105
    · replace hf := (if_neg c_1).symm.trans hf
      refine lv_aload_n hx hb dX5_lays_67 rfl (lv_at hl 0 rfl) ?_
      refine va_get (D := (dC, dI)) (ci := 6) (v := .ref a_laid) (C := RX5) (T := TX5) (N := 33) hx hb hts in_X5_lays_X5 hown hK hP 0 rfl rfl 9 (by decide) (hts (.fieldLink RX5 22 "LinkedCoversModel" "laid" "[I") lk_X5_lays_f22) (fun _ h9 => h9) rfl dX5_lays_68 ?_
      refine lv_iload_n hx hb dX5_lays_71 rfl (lv_at hl 3 rfl) ?_
      refine lv_aload_n hx hb dX5_lays_72 rfl (lv_at hl 0 rfl) ?_
      refine va_get (D := (dC, dI)) (ci := 6) (v := .ref a_laid) (C := RX5) (T := TX5) (N := 33) hx hb hts in_X5_lays_X5 hown hK hP 0 rfl rfl 9 (by decide) (hts (.fieldLink RX5 22 "LinkedCoversModel" "laid" "[I") lk_X5_lays_f22) (fun _ h9 => h9) rfl dX5_lays_73 ?_
      refine lv_iload_n hx hb dX5_lays_76 rfl (lv_at hl 3 rfl) ?_
      refine lv_iconst (v := 1) hx hb dX5_lays_77 (by decide) ?_
      refine lv_isub hx hb dX5_lays_78 ?_
      obtain ⟨h_3, hf⟩ := gd_ck hf
      refine va_iald hx hb hK hP 1 1 rfl rfl h_3 dX5_lays_79 ?_
      obtain ⟨h_4, hf⟩ := gd_ck hf
      refine va_iast hx hb hK hP hD hS 1 1 rfl rfl h_4 dX5_lays_80 (fun H locs hP hD hS => ?_)
      have hP : va_P (dC, dI) vwCl (ws_X5_lays cB cI cJ cZ a_this a_laid a_times a_bits a_colours a_cube a_takes a_choice a_isChosen a_column a_next a_barredAt a_ways a_own a_goes a_rowGoes a_mark a_count a_colour v_thrown v_columns v_needed v_rows v_cubes v_placements v_taken v_chosen v_nodes v_found v_isSpent v_told v_kept v_turns v_toldNodes (upd v_laid (Int32.toNatClampNeg x3) (v_laid (Int32.toNatClampNeg (x3 - (1 : Int32)))))) H := hP
      have hD : va_D A (ws_X5_lays cB cI cJ cZ a_this a_laid a_times a_bits a_colours a_cube a_takes a_choice a_isChosen a_column a_next a_barredAt a_ways a_own a_goes a_rowGoes a_mark a_count a_colour v_thrown v_columns v_needed v_rows v_cubes v_placements v_taken v_chosen v_nodes v_found v_isSpent v_told v_kept v_turns v_toldNodes (upd v_laid (Int32.toNatClampNeg x3) (v_laid (Int32.toNatClampNeg (x3 - (1 : Int32)))))) := hD
      refine lv_iinc (v := (x3 + (-1))) (lv' := [(3, .int (x3 + (-1))), (0, .ref a_this), (1, .int x1), (2, .int x2)]) hx hb dX5_lays_81 hl (k := 3) rfl rfl (by decide) rfl (fun ls hl => ?_)
      refine lv_goto (tgt := 62) hx hb dX5_lays_84 (by decide) ?_
      exact ih v_placements (upd v_laid (Int32.toNatClampNeg x3) (v_laid (Int32.toNatClampNeg (x3 - (1 : Int32))))) x1 x2 (x3 + (-1)) hf _ _ hP hD hS ls (lv_sub hl [1, 2, 3, 0] rfl)
set_option maxHeartbeats 4000000 in
set_option maxRecDepth 100000 in
theorem w_X5_lays_46 {p : Program} {l : Launch} {e : Env} {s : State} {m : MethodId} {args : Array Value} {below : List Frame} {meth : Method} {c : Code} {A : Nat → Prop} {dC : Nat → ClassId} {dI : Nat → Nat → Nat} {cB cI cJ cZ : ClassId} {a_this a_laid a_times a_bits a_colours a_cube a_takes a_choice a_isChosen a_column a_next a_barredAt a_ways a_own a_goes a_rowGoes a_mark a_count a_colour : Nat} {v_thrown : Int32} {v_columns : Int32} {v_needed : Int32} {v_rows : Int32} {v_cubes : Int32} {v_taken : Int32} {v_chosen : Int32} {v_nodes : Int32} {v_found : Int32} {v_isSpent : Int32} {v_told : Int32} {v_kept : Int32} {v_turns : Int32} {v_toldNodes : Int32} {out : Int32 × Int32 × (Nat → Int32)} (C0 : Cx RX5 cX5_lays (some .boolean) 4 wsX5_lays p s m args meth c A) (hK : va_K (dC, dI) vwCl (tysG cB cI cJ cZ) s)  : g_X5_lays_46 p l e s m args below meth c A dC dI cB cI cJ cZ a_this a_laid a_times a_bits a_colours a_cube a_takes a_choice a_isChosen a_column a_next a_barredAt a_ways a_own a_goes a_rowGoes a_mark a_count a_colour v_thrown v_columns v_needed v_rows v_cubes v_taken v_chosen v_nodes v_found v_isSpent v_told v_kept v_turns v_toldNodes out (f_X5_lays_46  ) := by
  obtain ⟨hx, hb, hr, hml, hown, hts, hlocks, hA⟩ := id C0
  intro v_placements v_laid x1 x2 hf H locs hP hD hS ls hl
  replace hf : ((if v_placements = (60 : Int32) then
  (some (((0 : Int32), (v_placements, v_laid))))
  else
  (f_X5_lays_62 1000000 v_placements v_laid x1 x2 v_placements)) : Option (Int32 × Int32 × (Nat → Int32))) = some out := hf
  refine lv_aload_n hx hb dX5_lays_46 rfl (lv_at hl 0 rfl) ?_
  refine va_get (D := (dC, dI)) (ci := 6) (v := .int v_placements) (C := RX5) (T := TX5) (N := 33) hx hb hts in_X5_lays_X5 hown hK hP 0 rfl rfl 10 (by decide) (hts (.fieldLink RX5 115 "LinkedCoversModel" "placements" "I") lk_X5_lays_f115) (fun _ h9 => h9) rfl dX5_lays_47 ?_
  refine lv_bipush (v := 60) hx hb dX5_lays_50 (by decide) ?_
  refine lv_icmp_ne (tgt := 57) hx hb dX5_lays_52 (by decide) (fun c_5 => ?_) (fun c_5 => ?_)
  · replace hf := (if_neg c_5).symm.trans hf
    refine lv_aload_n hx hb dX5_lays_57 rfl (lv_at hl 0 rfl) ?_
    refine va_get (D := (dC, dI)) (ci := 6) (v := .int v_placements) (C := RX5) (T := TX5) (N := 33) hx hb hts in_X5_lays_X5 hown hK hP 0 rfl rfl 10 (by decide) (hts (.fieldLink RX5 115 "LinkedCoversModel" "placements" "I") lk_X5_lays_f115) (fun _ h9 => h9) rfl dX5_lays_58 ?_
    refine lv_istore_n (lv' := [(3, .int v_placements), (0, .ref a_this), (1, .int x1), (2, .int x2)]) hx hb dX5_lays_61 rfl hl (by decide) rfl (fun ls hl => ?_)
    exact w_X5_lays_62 C0 hK 1000000 v_placements v_laid x1 x2 v_placements hf _ _ hP hD hS ls (lv_sub hl [1, 2, 3, 0] rfl)
  · replace hf := (if_pos c_5).symm.trans hf
    refine lv_iconst (v := 0) hx hb dX5_lays_55 (by decide) ?_
    have h9 := Option.some.inj hf
    have h8 := congrArg Prod.fst h9
    have h7 := congrArg Prod.snd h9
    exact W.zret (v := (0 : Int32)) hx hb hr rfl (fun t ht hW => ⟨⟨(0 : Int32), (v_placements, v_laid), rfl, ⟨h8, h7⟩, by rw [ht]; exact hP, va_K.moved hW.alike hK, hD⟩, hS.F ht⟩) hS.2.2 dX5_lays_56
set_option maxHeartbeats 4000000 in
set_option maxRecDepth 100000 in
theorem w_X5_lays_26 {p : Program} {l : Launch} {e : Env} {s : State} {m : MethodId} {args : Array Value} {below : List Frame} {meth : Method} {c : Code} {A : Nat → Prop} {dC : Nat → ClassId} {dI : Nat → Nat → Nat} {cB cI cJ cZ : ClassId} {a_this a_laid a_times a_bits a_colours a_cube a_takes a_choice a_isChosen a_column a_next a_barredAt a_ways a_own a_goes a_rowGoes a_mark a_count a_colour : Nat} {v_thrown : Int32} {v_columns : Int32} {v_needed : Int32} {v_rows : Int32} {v_cubes : Int32} {v_taken : Int32} {v_chosen : Int32} {v_nodes : Int32} {v_found : Int32} {v_isSpent : Int32} {v_told : Int32} {v_kept : Int32} {v_turns : Int32} {v_toldNodes : Int32} {out : Int32 × Int32 × (Nat → Int32)} (C0 : Cx RX5 cX5_lays (some .boolean) 4 wsX5_lays p s m args meth c A) (hK : va_K (dC, dI) vwCl (tysG cB cI cJ cZ) s)  : g_X5_lays_26 p l e s m args below meth c A dC dI cB cI cJ cZ a_this a_laid a_times a_bits a_colours a_cube a_takes a_choice a_isChosen a_column a_next a_barredAt a_ways a_own a_goes a_rowGoes a_mark a_count a_colour v_thrown v_columns v_needed v_rows v_cubes v_taken v_chosen v_nodes v_found v_isSpent v_told v_kept v_turns v_toldNodes out (f_X5_lays_26  ) := by
  obtain ⟨hx, hb, hr, hml, hown, hts, hlocks, hA⟩ := id C0
  intro v_placements v_laid x1 x2 hf H locs hP hD hS ls hl
  replace hf : ((if v_placements ≤ x2 then
  (f_X5_lays_46 v_placements v_laid x1 x2)
  else
  (if (x2 < 0 ∨ 60 ≤ Int32.toNatClampNeg x2) then none else
  if (v_laid (Int32.toNatClampNeg x2)) = x1 then
  (some (((1 : Int32), (v_placements, v_laid))))
  else
  (f_X5_lays_46 v_placements v_laid x1 x2))) : Option (Int32 × Int32 × (Nat → Int32))) = some out := hf
  refine lv_iload_n hx hb dX5_lays_26 rfl (lv_at hl 2 rfl) ?_
  refine lv_aload_n hx hb dX5_lays_27 rfl (lv_at hl 0 rfl) ?_
  refine va_get (D := (dC, dI)) (ci := 6) (v := .int v_placements) (C := RX5) (T := TX5) (N := 33) hx hb hts in_X5_lays_X5 hown hK hP 0 rfl rfl 10 (by decide) (hts (.fieldLink RX5 115 "LinkedCoversModel" "placements" "I") lk_X5_lays_f115) (fun _ h9 => h9) rfl dX5_lays_28 ?_
  refine lv_icmp_ge (tgt := 46) hx hb dX5_lays_31 (by decide) (fun c_6 => ?_) (fun c_6 => ?_)
  · replace hf := (if_pos c_6).symm.trans hf
    exact w_X5_lays_46 C0 hK v_placements v_laid x1 x2 hf _ _ hP hD hS ls (lv_sub hl [0, 1, 2] rfl)
  · replace hf := (if_neg c_6).symm.trans hf
    refine lv_aload_n hx hb dX5_lays_34 rfl (lv_at hl 0 rfl) ?_
    refine va_get (D := (dC, dI)) (ci := 6) (v := .ref a_laid) (C := RX5) (T := TX5) (N := 33) hx hb hts in_X5_lays_X5 hown hK hP 0 rfl rfl 9 (by decide) (hts (.fieldLink RX5 22 "LinkedCoversModel" "laid" "[I") lk_X5_lays_f22) (fun _ h9 => h9) rfl dX5_lays_35 ?_
    refine lv_iload_n hx hb dX5_lays_38 rfl (lv_at hl 2 rfl) ?_
    obtain ⟨h_7, hf⟩ := gd_ck hf
    refine va_iald hx hb hK hP 1 1 rfl rfl h_7 dX5_lays_39 ?_
    refine lv_iload_n hx hb dX5_lays_40 rfl (lv_at hl 1 rfl) ?_
    refine lv_icmp_ne (tgt := 46) hx hb dX5_lays_41 (by decide) (fun c_8 => ?_) (fun c_8 => ?_)
    · replace hf := (if_neg c_8).symm.trans hf
      exact w_X5_lays_46 C0 hK v_placements v_laid x1 x2 hf _ _ hP hD hS ls (lv_sub hl [0, 1, 2] rfl)
    · replace hf := (if_pos c_8).symm.trans hf
      refine lv_iconst (v := 1) hx hb dX5_lays_44 (by decide) ?_
      have h9 := Option.some.inj hf
      have h8 := congrArg Prod.fst h9
      have h7 := congrArg Prod.snd h9
      exact W.zret (v := (1 : Int32)) hx hb hr rfl (fun t ht hW => ⟨⟨(1 : Int32), (v_placements, v_laid), rfl, ⟨h8, h7⟩, by rw [ht]; exact hP, va_K.moved hW.alike hK, hD⟩, hS.F ht⟩) hS.2.2 dX5_lays_45
set_option maxHeartbeats 4000000 in
set_option maxRecDepth 100000 in
theorem w_X5_lays_2 {p : Program} {l : Launch} {e : Env} {s : State} {m : MethodId} {args : Array Value} {below : List Frame} {meth : Method} {c : Code} {A : Nat → Prop} {dC : Nat → ClassId} {dI : Nat → Nat → Nat} {cB cI cJ cZ : ClassId} {a_this a_laid a_times a_bits a_colours a_cube a_takes a_choice a_isChosen a_column a_next a_barredAt a_ways a_own a_goes a_rowGoes a_mark a_count a_colour : Nat} {v_thrown : Int32} {v_columns : Int32} {v_needed : Int32} {v_rows : Int32} {v_cubes : Int32} {v_taken : Int32} {v_chosen : Int32} {v_nodes : Int32} {v_found : Int32} {v_isSpent : Int32} {v_told : Int32} {v_kept : Int32} {v_turns : Int32} {v_toldNodes : Int32} {out : Int32 × Int32 × (Nat → Int32)} (C0 : Cx RX5 cX5_lays (some .boolean) 4 wsX5_lays p s m args meth c A) (hK : va_K (dC, dI) vwCl (tysG cB cI cJ cZ) s)  : ∀ n : Nat, g_X5_lays_2 p l e s m args below meth c A dC dI cB cI cJ cZ a_this a_laid a_times a_bits a_colours a_cube a_takes a_choice a_isChosen a_column a_next a_barredAt a_ways a_own a_goes a_rowGoes a_mark a_count a_colour v_thrown v_columns v_needed v_rows v_cubes v_taken v_chosen v_nodes v_found v_isSpent v_told v_kept v_turns v_toldNodes out (f_X5_lays_2   n) := by
  obtain ⟨hx, hb, hr, hml, hown, hts, hlocks, hA⟩ := id C0
  intro n
  induction n with
  | zero =>
    intro v_placements v_laid x1 x2 hf H locs hP hD hS ls hl
    exact nomatch (show (none : Option (Int32 × Int32 × (Nat → Int32))) = some out from hf)
  | succ n ih =>
    intro v_placements v_laid x1 x2 hf H locs hP hD hS ls hl
    replace hf : ((if v_placements ≤ x2 then
  (f_X5_lays_26 v_placements v_laid x1 x2)
  else
  (if (x2 < 0 ∨ 60 ≤ Int32.toNatClampNeg x2) then none else
  if x1 ≤ (v_laid (Int32.toNatClampNeg x2)) then
  (f_X5_lays_26 v_placements v_laid x1 x2)
  else
  (f_X5_lays_2 n v_placements v_laid x1 (x2 + 1)))) : Option (Int32 × Int32 × (Nat → Int32))) = some out := hf
    refine lv_iload_n hx hb dX5_lays_2 rfl (lv_at hl 2 rfl) ?_
    refine lv_aload_n hx hb dX5_lays_3 rfl (lv_at hl 0 rfl) ?_
    refine va_get (D := (dC, dI)) (ci := 6) (v := .int v_placements) (C := RX5) (T := TX5) (N := 33) hx hb hts in_X5_lays_X5 hown hK hP 0 rfl rfl 10 (by decide) (hts (.fieldLink RX5 115 "LinkedCoversModel" "placements" "I") lk_X5_lays_f115) (fun _ h9 => h9) rfl dX5_lays_4 ?_
    refine lv_icmp_ge (tgt := 26) hx hb dX5_lays_7 (by decide) (fun c_9 => ?_) (fun c_9 => ?_)
    · replace hf := (if_pos c_9).symm.trans hf
      exact w_X5_lays_26 C0 hK v_placements v_laid x1 x2 hf _ _ hP hD hS ls (lv_sub hl [0, 1, 2] rfl)
    · replace hf := (if_neg c_9).symm.trans hf
      refine lv_aload_n hx hb dX5_lays_10 rfl (lv_at hl 0 rfl) ?_
      refine va_get (D := (dC, dI)) (ci := 6) (v := .ref a_laid) (C := RX5) (T := TX5) (N := 33) hx hb hts in_X5_lays_X5 hown hK hP 0 rfl rfl 9 (by decide) (hts (.fieldLink RX5 22 "LinkedCoversModel" "laid" "[I") lk_X5_lays_f22) (fun _ h9 => h9) rfl dX5_lays_11 ?_
      refine lv_iload_n hx hb dX5_lays_14 rfl (lv_at hl 2 rfl) ?_
      obtain ⟨h_10, hf⟩ := gd_ck hf
      refine va_iald hx hb hK hP 1 1 rfl rfl h_10 dX5_lays_15 ?_
      refine lv_iload_n hx hb dX5_lays_16 rfl (lv_at hl 1 rfl) ?_
      refine lv_icmp_ge (tgt := 26) hx hb dX5_lays_17 (by decide) (fun c_11 => ?_) (fun c_11 => ?_)
      · replace hf := (if_pos c_11).symm.trans hf
        exact w_X5_lays_26 C0 hK v_placements v_laid x1 x2 hf _ _ hP hD hS ls (lv_sub hl [0, 1, 2] rfl)
      · replace hf := (if_neg c_11).symm.trans hf
        refine lv_iinc (v := (x2 + 1)) (lv' := [(2, .int (x2 + 1)), (0, .ref a_this), (1, .int x1)]) hx hb dX5_lays_20 hl (k := 2) rfl rfl (by decide) rfl (fun ls hl => ?_)
        refine lv_goto (tgt := 2) hx hb dX5_lays_23 (by decide) ?_
        exact ih v_placements v_laid x1 (x2 + 1) hf _ _ hP hD hS ls (lv_sub hl [1, 2, 0] rfl)
set_option maxHeartbeats 4000000 in
set_option maxRecDepth 100000 in
theorem w_X5_lays_0 {p : Program} {l : Launch} {e : Env} {s : State} {m : MethodId} {args : Array Value} {below : List Frame} {meth : Method} {c : Code} {A : Nat → Prop} {dC : Nat → ClassId} {dI : Nat → Nat → Nat} {cB cI cJ cZ : ClassId} {a_this a_laid a_times a_bits a_colours a_cube a_takes a_choice a_isChosen a_column a_next a_barredAt a_ways a_own a_goes a_rowGoes a_mark a_count a_colour : Nat} {v_thrown : Int32} {v_columns : Int32} {v_needed : Int32} {v_rows : Int32} {v_cubes : Int32} {v_taken : Int32} {v_chosen : Int32} {v_nodes : Int32} {v_found : Int32} {v_isSpent : Int32} {v_told : Int32} {v_kept : Int32} {v_turns : Int32} {v_toldNodes : Int32} {out : Int32 × Int32 × (Nat → Int32)} (C0 : Cx RX5 cX5_lays (some .boolean) 4 wsX5_lays p s m args meth c A) (hK : va_K (dC, dI) vwCl (tysG cB cI cJ cZ) s)  : g_X5_lays_0 p l e s m args below meth c A dC dI cB cI cJ cZ a_this a_laid a_times a_bits a_colours a_cube a_takes a_choice a_isChosen a_column a_next a_barredAt a_ways a_own a_goes a_rowGoes a_mark a_count a_colour v_thrown v_columns v_needed v_rows v_cubes v_taken v_chosen v_nodes v_found v_isSpent v_told v_kept v_turns v_toldNodes out (f_X5_lays  ) := by
  obtain ⟨hx, hb, hr, hml, hown, hts, hlocks, hA⟩ := id C0
  intro v_placements v_laid x1 hf H locs hP hD hS ls hl
  replace hf : ((f_X5_lays_2 1000000 v_placements v_laid x1 (0 : Int32)) : Option (Int32 × Int32 × (Nat → Int32))) = some out := hf
  refine lv_iconst (v := 0) hx hb dX5_lays_0 (by decide) ?_
  refine lv_istore_n (lv' := [(2, .int (0 : Int32)), (0, .ref a_this), (1, .int x1)]) hx hb dX5_lays_1 rfl hl (by decide) rfl (fun ls hl => ?_)
  exact w_X5_lays_2 C0 hK 1000000 v_placements v_laid x1 (0 : Int32) hf _ _ hP hD hS ls (lv_sub hl [1, 2, 0] rfl)
theorem nd_X5_lays : yX5_lays.cls ≠ "java/lang/invoke/MethodHandle" ∧ yX5_lays.cls ≠ "java/lang/invoke/VarHandle" ∧ (parseMethodDescriptor yX5_lays.desc).map (fun d => d.parameters.length) = some 1 := by decide +kernel
set_option maxHeartbeats 4000000 in
set_option maxRecDepth 100000 in
theorem c_X5_lays (l : Launch) (dC : Nat → ClassId) (dI : Nat → Nat → Nat) (cB cI cJ cZ : ClassId) (a_this a_laid a_times a_bits a_colours a_cube a_takes a_choice a_isChosen a_column a_next a_barredAt a_ways a_own a_goes a_rowGoes a_mark a_count a_colour : Nat) (sz : Nat) (v_thrown : Int32) (v_columns : Int32) (v_needed : Int32) (v_rows : Int32) (v_cubes : Int32) (v_placements : Int32) (v_taken : Int32) (v_chosen : Int32) (v_nodes : Int32) (v_found : Int32) (v_isSpent : Int32) (v_told : Int32) (v_kept : Int32) (v_turns : Int32) (v_toldNodes : Int32) (v_laid : (Nat → Int32)) (x1 : Int32) (out : Int32 × Int32 × (Nat → Int32)) (hf : f_X5_lays  v_placements v_laid x1 = some out) : Met l yX5_lays wsX5_lays rm_X5_lays (va_Pc [.ref a_this, .int x1] (fun U => U.heap.size = sz ∧ va_P (dC, dI) vwCl (ws_X5_lays cB cI cJ cZ a_this a_laid a_times a_bits a_colours a_cube a_takes a_choice a_isChosen a_column a_next a_barredAt a_ways a_own a_goes a_rowGoes a_mark a_count a_colour v_thrown v_columns v_needed v_rows v_cubes v_placements v_taken v_chosen v_nodes v_found v_isSpent v_told v_kept v_turns v_toldNodes v_laid) U.heap ∧ va_K (dC, dI) vwCl (tysG cB cI cJ cZ) U ∧ va_D (fun _ => True) (ws_X5_lays cB cI cJ cZ a_this a_laid a_times a_bits a_colours a_cube a_takes a_choice a_isChosen a_column a_next a_barredAt a_ways a_own a_goes a_rowGoes a_mark a_count a_colour v_thrown v_columns v_needed v_rows v_cubes v_placements v_taken v_chosen v_nodes v_found v_isSpent v_told v_kept v_turns v_toldNodes v_laid))) (qc_X5_lays (va_A (ws_X5_lays cB cI cJ cZ a_this a_laid a_times a_bits a_colours a_cube a_takes a_choice a_isChosen a_column a_next a_barredAt a_ways a_own a_goes a_rowGoes a_mark a_count a_colour v_thrown v_columns v_needed v_rows v_cubes v_placements v_taken v_chosen v_nodes v_found v_isSpent v_told v_kept v_turns v_toldNodes v_laid) sz) dC dI cB cI cJ cZ a_this a_laid a_times a_bits a_colours a_cube a_takes a_choice a_isChosen a_column a_next a_barredAt a_ways a_own a_goes a_rowGoes a_mark a_count a_colour v_thrown v_columns v_needed v_rows v_cubes v_taken v_chosen v_nodes v_found v_isSpent v_told v_kept v_turns v_toldNodes out) 0 0 (va_A (ws_X5_lays cB cI cJ cZ a_this a_laid a_times a_bits a_colours a_cube a_takes a_choice a_isChosen a_column a_next a_barredAt a_ways a_own a_goes a_rowGoes a_mark a_count a_colour v_thrown v_columns v_needed v_rows v_cubes v_placements v_taken v_chosen v_nodes v_found v_isSpent v_told v_kept v_turns v_toldNodes v_laid) sz) := by
  refine Met.ofW (cc := cX5_lays) (maxL := 4) (ret := (some .boolean)) (by decide) rfl ?_
  intro p e s m args below meth c s₁ B hml hv
  obtain ⟨rfl, hsz, hP, hK, hD0⟩ := hv
  subst hsz
  have hD := hD0.self (sz := s.heap.size)
  generalize hAe : va_A (ws_X5_lays cB cI cJ cZ a_this a_laid a_times a_bits a_colours a_cube a_takes a_choice a_isChosen a_column a_next a_barredAt a_ways a_own a_goes a_rowGoes a_mark a_count a_colour v_thrown v_columns v_needed v_rows v_cubes v_placements v_taken v_chosen v_nodes v_found v_isSpent v_told v_kept v_turns v_toldNodes v_laid) s.heap.size = A at hD ⊢
  have hA : ∀ q : Nat, s.heap.size ≤ q → A q := fun q h => by rw [← hAe]; exact Or.inr h
  have hl := lv_entry ([.ref a_this, .int x1]) (n := 4) (Nat.le_of_ble_eq_true rfl)
  rw [lg_entry_eq]
  generalize (lg_sl ([.ref a_this, .int x1]) ++ List.replicate (4 - (lg_sl ([.ref a_this, .int x1])).length) Slot.unset).toArray = ls at hl ⊢
  have hl : lv_has ls 4 [(0, .ref a_this), (1, .int x1)] := hl
  exact w_X5_lays_0 ⟨B.exec, B.bytes, B.returns, hml, findClass_of_methodNamed B.named, atoms_spec (ws := wsX5_lays) B.pre, B.notSynchronized, hA⟩ hK v_placements v_laid x1 hf _ _ hP hD va_S.rf ls (lv_sub hl [0, 1] rfl)
-- X5.layAll(IIII)Z: 71 instructions
theorem in_X5_layAll_X5 : ∀ w ∈ wsX50, w ∈ wsX5_layAll := by decide +kernel
abbrev ws_X5_layAll (cB cI cJ cZ : ClassId) (a_this a_cube a_laid a_times a_bits a_colours a_takes a_choice a_isChosen a_column a_next a_barredAt a_ways a_own a_goes a_rowGoes a_mark a_count a_colour : Nat) (v_thrown : Int32) (v_columns : Int32) (v_needed : Int32) (v_rows : Int32) (v_cubes : Int32) (v_placements : Int32) (v_taken : Int32) (v_chosen : Int32) (v_nodes : Int32) (v_found : Int32) (v_isSpent : Int32) (v_told : Int32) (v_kept : Int32) (v_turns : Int32) (v_toldNodes : Int32) (v_cube : (Nat → Int32)) (v_laid : (Nat → Int32)) : va_W := [(a_this, .inr (6, [.int v_thrown, .int v_columns, .int v_needed, .ref a_times, .int v_rows, .ref a_bits, .ref a_colours, .int v_cubes, .ref a_cube, .ref a_laid, .int v_placements, .int v_taken, .ref a_takes, .int v_chosen, .ref a_choice, .ref a_isChosen, .ref a_column, .ref a_next, .ref a_barredAt, .int v_nodes, .int v_found, .int v_isSpent, .int v_told, .int v_kept, .ref a_ways, .ref a_own, .int v_turns, .ref a_goes, .ref a_rowGoes, .ref a_mark, .ref a_count, .ref a_colour, .int v_toldNodes])), (a_cube, .inl (cI, 7, .inl v_cube)), (a_laid, .inl (cI, 60, .inl v_laid))]
abbrev rm_X5_layAll : Room := { frames := 2, cells := 0, slots := 0, locals := 61 }
theorem lk_X5_layAll_f115 : Cond.fieldLink RX5 115 "LinkedCoversModel" "placements" "I" ∈ wsX5_layAll := by decide +kernel
def f_X5_layAll_111 (v_cubes : Int32) (v_cube : (Nat → Int32)) (k_8 : Int32 → (Nat → Int32) → Int32 → Int32 → Int32 → Int32 → Int32 → Option (Int32 × Int32 × (Nat → Int32))) (k_18 : Int32 → (Nat → Int32) → Int32 → Int32 → Int32 → Int32 → Int32 → Int32 → Option (Int32 × Int32 × (Nat → Int32))) (k_44 : Int32 → (Nat → Int32) → Int32 → Int32 → Int32 → Int32 → Int32 → Int32 → Int32 → Option (Int32 × Int32 × (Nat → Int32))) (k_56 : Int32 → (Nat → Int32) → Int32 → Int32 → Int32 → Int32 → Int32 → Int32 → Int32 → Int32 → Option (Int32 × Int32 × (Nat → Int32))) (k_68 : Int32 → (Nat → Int32) → Int32 → Int32 → Int32 → Int32 → Int32 → Int32 → Int32 → Int32 → Int32 → Option (Int32 × Int32 × (Nat → Int32))) (v_placements : Int32) (v_laid : (Nat → Int32)) (x1 : Int32) (x2 : Int32) (x3 : Int32) (x4 : Int32) (x5 : Int32) (x6 : Int32) (x7 : Int32) (x8 : Int32) (x9 : Int32) : Option (Int32 × Int32 × (Nat → Int32)) :=
  k_68 v_placements v_laid x1 x2 x3 x4 x5 x6 x7 x8 (x9 + 1)
def f_X5_layAll_68 (v_cubes : Int32) (v_cube : (Nat → Int32)) (k_8 : Int32 → (Nat → Int32) → Int32 → Int32 → Int32 → Int32 → Int32 → Option (Int32 × Int32 × (Nat → Int32))) (k_18 : Int32 → (Nat → Int32) → Int32 → Int32 → Int32 → Int32 → Int32 → Int32 → Option (Int32 × Int32 × (Nat → Int32))) (k_44 : Int32 → (Nat → Int32) → Int32 → Int32 → Int32 → Int32 → Int32 → Int32 → Int32 → Option (Int32 × Int32 × (Nat → Int32))) (k_56 : Int32 → (Nat → Int32) → Int32 → Int32 → Int32 → Int32 → Int32 → Int32 → Int32 → Int32 → Option (Int32 × Int32 × (Nat → Int32))) : Nat → Int32 → (Nat → Int32) → Int32 → Int32 → Int32 → Int32 → Int32 → Int32 → Int32 → Int32 → Int32 → Option (Int32 × Int32 × (Nat → Int32))
  | 0 => fun _ _ _ _ _ _ _ _ _ _ _ => none
  | n + 1 => fun v_placements v_laid x1 x2 x3 x4 x5 x6 x7 x8 x9 => if (x1 + (1 : Int32)) < x9 then
  (k_56 v_placements v_laid x1 x2 x3 x4 x5 x6 x7 (x8 + 1))
  else
  ((f_X5_placed v_cubes v_cube x5 x6 x9 x8 x7 x1 x2 x3).bind (fun o_2 =>
  if o_2.1 < 0 then
  (f_X5_layAll_111 v_cubes v_cube k_8 k_18 k_44 k_56 (f_X5_layAll_68 v_cubes v_cube k_8 k_18 k_44 k_56 n) v_placements v_laid x1 x2 x3 x4 x5 x6 x7 x8 x9)
  else
  ((f_X5_lays v_placements v_laid o_2.1).bind (fun o_4 =>
  if o_4.1 = 0 then
  (some (((0 : Int32), (o_4.2.1, o_4.2.2))))
  else
  (f_X5_layAll_111 v_cubes v_cube k_8 k_18 k_44 k_56 (f_X5_layAll_68 v_cubes v_cube k_8 k_18 k_44 k_56 n) o_4.2.1 o_4.2.2 x1 x2 x3 x4 x5 x6 x7 x8 x9)))))
def f_X5_layAll_56 (v_cubes : Int32) (v_cube : (Nat → Int32)) (k_8 : Int32 → (Nat → Int32) → Int32 → Int32 → Int32 → Int32 → Int32 → Option (Int32 × Int32 × (Nat → Int32))) (k_18 : Int32 → (Nat → Int32) → Int32 → Int32 → Int32 → Int32 → Int32 → Int32 → Option (Int32 × Int32 × (Nat → Int32))) (k_44 : Int32 → (Nat → Int32) → Int32 → Int32 → Int32 → Int32 → Int32 → Int32 → Int32 → Option (Int32 × Int32 × (Nat → Int32))) : Nat → Int32 → (Nat → Int32) → Int32 → Int32 → Int32 → Int32 → Int32 → Int32 → Int32 → Int32 → Option (Int32 × Int32 × (Nat → Int32))
  | 0 => fun _ _ _ _ _ _ _ _ _ _ => none
  | n + 1 => fun v_placements v_laid x1 x2 x3 x4 x5 x6 x7 x8 => if (x2 + (1 : Int32)) < x8 then
  (k_44 v_placements v_laid x1 x2 x3 x4 x5 x6 (x7 + 1))
  else
  (f_X5_layAll_68 v_cubes v_cube k_8 k_18 k_44 (f_X5_layAll_56 v_cubes v_cube k_8 k_18 k_44 n) 1000000 v_placements v_laid x1 x2 x3 x4 x5 x6 x7 x8 (-2 : Int32))
def f_X5_layAll_129 (v_cubes : Int32) (v_cube : (Nat → Int32)) (k_8 : Int32 → (Nat → Int32) → Int32 → Int32 → Int32 → Int32 → Int32 → Option (Int32 × Int32 × (Nat → Int32))) (k_18 : Int32 → (Nat → Int32) → Int32 → Int32 → Int32 → Int32 → Int32 → Int32 → Option (Int32 × Int32 × (Nat → Int32))) (v_placements : Int32) (v_laid : (Nat → Int32)) (x1 : Int32) (x2 : Int32) (x3 : Int32) (x4 : Int32) (x5 : Int32) (x6 : Int32) : Option (Int32 × Int32 × (Nat → Int32)) :=
  k_18 v_placements v_laid x1 x2 x3 x4 x5 (x6 + 1)
def f_X5_layAll_44 (v_cubes : Int32) (v_cube : (Nat → Int32)) (k_8 : Int32 → (Nat → Int32) → Int32 → Int32 → Int32 → Int32 → Int32 → Option (Int32 × Int32 × (Nat → Int32))) (k_18 : Int32 → (Nat → Int32) → Int32 → Int32 → Int32 → Int32 → Int32 → Int32 → Option (Int32 × Int32 × (Nat → Int32))) : Nat → Int32 → (Nat → Int32) → Int32 → Int32 → Int32 → Int32 → Int32 → Int32 → Int32 → Option (Int32 × Int32 × (Nat → Int32))
  | 0 => fun _ _ _ _ _ _ _ _ _ => none
  | n + 1 => fun v_placements v_laid x1 x2 x3 x4 x5 x6 x7 => if (x3 + (1 : Int32)) < x7 then
  (f_X5_layAll_129 v_cubes v_cube k_8 k_18 v_placements v_laid x1 x2 x3 x4 x5 x6)
  else
  (f_X5_layAll_56 v_cubes v_cube k_8 k_18 (f_X5_layAll_44 v_cubes v_cube k_8 k_18 n) 1000000 v_placements v_laid x1 x2 x3 x4 x5 x6 x7 (-2 : Int32))
def f_X5_layAll_18 (v_cubes : Int32) (v_cube : (Nat → Int32)) (k_8 : Int32 → (Nat → Int32) → Int32 → Int32 → Int32 → Int32 → Int32 → Option (Int32 × Int32 × (Nat → Int32))) : Nat → Int32 → (Nat → Int32) → Int32 → Int32 → Int32 → Int32 → Int32 → Int32 → Option (Int32 × Int32 × (Nat → Int32))
  | 0 => fun _ _ _ _ _ _ _ _ => none
  | n + 1 => fun v_placements v_laid x1 x2 x3 x4 x5 x6 => if (6 : Int32) ≤ x6 then
  (k_8 v_placements v_laid x1 x2 x3 x4 (x5 + 1))
  else
  ((f_X5_isDue x5 x6 x4).bind (fun o_9 =>
  if o_9.1 = 0 then
  (f_X5_layAll_129 v_cubes v_cube k_8 (f_X5_layAll_18 v_cubes v_cube k_8 n) v_placements v_laid x1 x2 x3 x4 x5 x6)
  else
  (f_X5_layAll_44 v_cubes v_cube k_8 (f_X5_layAll_18 v_cubes v_cube k_8 n) 1000000 v_placements v_laid x1 x2 x3 x4 x5 x6 (-2 : Int32))))
def f_X5_layAll_8 (v_cubes : Int32) (v_cube : (Nat → Int32))  : Nat → Int32 → (Nat → Int32) → Int32 → Int32 → Int32 → Int32 → Int32 → Option (Int32 × Int32 × (Nat → Int32))
  | 0 => fun _ _ _ _ _ _ _ => none
  | n + 1 => fun v_placements v_laid x1 x2 x3 x4 x5 => if (6 : Int32) ≤ x5 then
  (some (((1 : Int32), (v_placements, v_laid))))
  else
  (f_X5_layAll_18 v_cubes v_cube (f_X5_layAll_8 v_cubes v_cube n) 1000000 v_placements v_laid x1 x2 x3 x4 x5 (0 : Int32))
def f_X5_layAll (v_cubes : Int32) (v_cube : (Nat → Int32))  (v_placements : Int32) (v_laid : (Nat → Int32)) (x1 : Int32) (x2 : Int32) (x3 : Int32) (x4 : Int32) : Option (Int32 × Int32 × (Nat → Int32)) :=
  f_X5_layAll_8 v_cubes v_cube 1000000 (0 : Int32) v_laid x1 x2 x3 x4 (0 : Int32)
abbrev qc_X5_layAll (A : Nat → Prop) (dC : Nat → ClassId) (dI : Nat → Nat → Nat) (cB cI cJ cZ : ClassId) (a_this a_cube a_laid a_times a_bits a_colours a_takes a_choice a_isChosen a_column a_next a_barredAt a_ways a_own a_goes a_rowGoes a_mark a_count a_colour : Nat) (v_thrown : Int32) (v_columns : Int32) (v_needed : Int32) (v_rows : Int32) (v_cubes : Int32) (v_taken : Int32) (v_chosen : Int32) (v_nodes : Int32) (v_found : Int32) (v_isSpent : Int32) (v_told : Int32) (v_kept : Int32) (v_turns : Int32) (v_toldNodes : Int32) (v_cube : (Nat → Int32)) (out : Int32 × Int32 × (Nat → Int32)) : Array Value → State → Outcome → State → Prop := va_Qi (fun (r : Int32) (u : Int32 × (Nat → Int32)) => r = out.1 ∧ u = out.2) (fun (u : Int32 × (Nat → Int32)) (t : State) => va_P (dC, dI) vwCl (ws_X5_layAll cB cI cJ cZ a_this a_cube a_laid a_times a_bits a_colours a_takes a_choice a_isChosen a_column a_next a_barredAt a_ways a_own a_goes a_rowGoes a_mark a_count a_colour v_thrown v_columns v_needed v_rows v_cubes u.1 v_taken v_chosen v_nodes v_found v_isSpent v_told v_kept v_turns v_toldNodes v_cube u.2) t.heap ∧ va_K (dC, dI) vwCl (tysG cB cI cJ cZ) t ∧ va_D A (ws_X5_layAll cB cI cJ cZ a_this a_cube a_laid a_times a_bits a_colours a_takes a_choice a_isChosen a_column a_next a_barredAt a_ways a_own a_goes a_rowGoes a_mark a_count a_colour v_thrown v_columns v_needed v_rows v_cubes u.1 v_taken v_chosen v_nodes v_found v_isSpent v_told v_kept v_turns v_toldNodes v_cube u.2)) A
abbrev g_X5_layAll_111 (p : Program) (l : Launch) (e : Env) (s : State) (m : MethodId) (args : Array Value) (below : List Frame) (meth : Method) (c : Code) (A : Nat → Prop) (dC : Nat → ClassId) (dI : Nat → Nat → Nat) (cB cI cJ cZ : ClassId) (a_this a_cube a_laid a_times a_bits a_colours a_takes a_choice a_isChosen a_column a_next a_barredAt a_ways a_own a_goes a_rowGoes a_mark a_count a_colour : Nat) (v_thrown : Int32) (v_columns : Int32) (v_needed : Int32) (v_rows : Int32) (v_cubes : Int32) (v_taken : Int32) (v_chosen : Int32) (v_nodes : Int32) (v_found : Int32) (v_isSpent : Int32) (v_told : Int32) (v_kept : Int32) (v_turns : Int32) (v_toldNodes : Int32) (v_cube : (Nat → Int32)) (out : Int32 × Int32 × (Nat → Int32)) (k : Int32 → (Nat → Int32) → Int32 → Int32 → Int32 → Int32 → Int32 → Int32 → Int32 → Int32 → Int32 → Option (Int32 × Int32 × (Nat → Int32))) : Prop := ∀ (v_placements : Int32) (v_laid : (Nat → Int32)) (x1 : Int32) (x2 : Int32) (x3 : Int32) (x4 : Int32) (x5 : Int32) (x6 : Int32) (x7 : Int32) (x8 : Int32) (x9 : Int32), k v_placements v_laid x1 x2 x3 x4 x5 x6 x7 x8 x9 = some out → ∀ (H : Heap) (locs : List Loc), va_P (dC, dI) vwCl (ws_X5_layAll cB cI cJ cZ a_this a_cube a_laid a_times a_bits a_colours a_takes a_choice a_isChosen a_column a_next a_barredAt a_ways a_own a_goes a_rowGoes a_mark a_count a_colour v_thrown v_columns v_needed v_rows v_cubes v_placements v_taken v_chosen v_nodes v_found v_isSpent v_told v_kept v_turns v_toldNodes v_cube v_laid) H → va_D A (ws_X5_layAll cB cI cJ cZ a_this a_cube a_laid a_times a_bits a_colours a_takes a_choice a_isChosen a_column a_next a_barredAt a_ways a_own a_goes a_rowGoes a_mark a_count a_colour v_thrown v_columns v_needed v_rows v_cubes v_placements v_taken v_chosen v_nodes v_found v_isSpent v_told v_kept v_turns v_toldNodes v_cube v_laid) → va_S A s.heap H locs → ∀ (ls : Array Slot), lv_has ls 11 [(0, .ref a_this), (1, .int x1), (2, .int x2), (3, .int x3), (4, .int x4), (5, .int x5), (6, .int x6), (7, .int x7), (8, .int x8), (9, .int x9)] → W p l e (headSpec wsX5_layAll rm_X5_layAll).room s m args below meth c H locs 0 0 (MQ below (qc_X5_layAll A dC dI cB cI cJ cZ a_this a_cube a_laid a_times a_bits a_colours a_takes a_choice a_isChosen a_column a_next a_barredAt a_ways a_own a_goes a_rowGoes a_mark a_count a_colour v_thrown v_columns v_needed v_rows v_cubes v_taken v_chosen v_nodes v_found v_isSpent v_told v_kept v_turns v_toldNodes v_cube out) args s 0 0 A) (F0 m 111 ls [])
abbrev g_X5_layAll_68 (p : Program) (l : Launch) (e : Env) (s : State) (m : MethodId) (args : Array Value) (below : List Frame) (meth : Method) (c : Code) (A : Nat → Prop) (dC : Nat → ClassId) (dI : Nat → Nat → Nat) (cB cI cJ cZ : ClassId) (a_this a_cube a_laid a_times a_bits a_colours a_takes a_choice a_isChosen a_column a_next a_barredAt a_ways a_own a_goes a_rowGoes a_mark a_count a_colour : Nat) (v_thrown : Int32) (v_columns : Int32) (v_needed : Int32) (v_rows : Int32) (v_cubes : Int32) (v_taken : Int32) (v_chosen : Int32) (v_nodes : Int32) (v_found : Int32) (v_isSpent : Int32) (v_told : Int32) (v_kept : Int32) (v_turns : Int32) (v_toldNodes : Int32) (v_cube : (Nat → Int32)) (out : Int32 × Int32 × (Nat → Int32)) (k : Int32 → (Nat → Int32) → Int32 → Int32 → Int32 → Int32 → Int32 → Int32 → Int32 → Int32 → Int32 → Option (Int32 × Int32 × (Nat → Int32))) : Prop := ∀ (v_placements : Int32) (v_laid : (Nat → Int32)) (x1 : Int32) (x2 : Int32) (x3 : Int32) (x4 : Int32) (x5 : Int32) (x6 : Int32) (x7 : Int32) (x8 : Int32) (x9 : Int32), k v_placements v_laid x1 x2 x3 x4 x5 x6 x7 x8 x9 = some out → ∀ (H : Heap) (locs : List Loc), va_P (dC, dI) vwCl (ws_X5_layAll cB cI cJ cZ a_this a_cube a_laid a_times a_bits a_colours a_takes a_choice a_isChosen a_column a_next a_barredAt a_ways a_own a_goes a_rowGoes a_mark a_count a_colour v_thrown v_columns v_needed v_rows v_cubes v_placements v_taken v_chosen v_nodes v_found v_isSpent v_told v_kept v_turns v_toldNodes v_cube v_laid) H → va_D A (ws_X5_layAll cB cI cJ cZ a_this a_cube a_laid a_times a_bits a_colours a_takes a_choice a_isChosen a_column a_next a_barredAt a_ways a_own a_goes a_rowGoes a_mark a_count a_colour v_thrown v_columns v_needed v_rows v_cubes v_placements v_taken v_chosen v_nodes v_found v_isSpent v_told v_kept v_turns v_toldNodes v_cube v_laid) → va_S A s.heap H locs → ∀ (ls : Array Slot), lv_has ls 11 [(0, .ref a_this), (1, .int x1), (2, .int x2), (3, .int x3), (4, .int x4), (5, .int x5), (6, .int x6), (7, .int x7), (8, .int x8), (9, .int x9)] → W p l e (headSpec wsX5_layAll rm_X5_layAll).room s m args below meth c H locs 0 0 (MQ below (qc_X5_layAll A dC dI cB cI cJ cZ a_this a_cube a_laid a_times a_bits a_colours a_takes a_choice a_isChosen a_column a_next a_barredAt a_ways a_own a_goes a_rowGoes a_mark a_count a_colour v_thrown v_columns v_needed v_rows v_cubes v_taken v_chosen v_nodes v_found v_isSpent v_told v_kept v_turns v_toldNodes v_cube out) args s 0 0 A) (F0 m 68 ls [])
abbrev g_X5_layAll_56 (p : Program) (l : Launch) (e : Env) (s : State) (m : MethodId) (args : Array Value) (below : List Frame) (meth : Method) (c : Code) (A : Nat → Prop) (dC : Nat → ClassId) (dI : Nat → Nat → Nat) (cB cI cJ cZ : ClassId) (a_this a_cube a_laid a_times a_bits a_colours a_takes a_choice a_isChosen a_column a_next a_barredAt a_ways a_own a_goes a_rowGoes a_mark a_count a_colour : Nat) (v_thrown : Int32) (v_columns : Int32) (v_needed : Int32) (v_rows : Int32) (v_cubes : Int32) (v_taken : Int32) (v_chosen : Int32) (v_nodes : Int32) (v_found : Int32) (v_isSpent : Int32) (v_told : Int32) (v_kept : Int32) (v_turns : Int32) (v_toldNodes : Int32) (v_cube : (Nat → Int32)) (out : Int32 × Int32 × (Nat → Int32)) (k : Int32 → (Nat → Int32) → Int32 → Int32 → Int32 → Int32 → Int32 → Int32 → Int32 → Int32 → Option (Int32 × Int32 × (Nat → Int32))) : Prop := ∀ (v_placements : Int32) (v_laid : (Nat → Int32)) (x1 : Int32) (x2 : Int32) (x3 : Int32) (x4 : Int32) (x5 : Int32) (x6 : Int32) (x7 : Int32) (x8 : Int32), k v_placements v_laid x1 x2 x3 x4 x5 x6 x7 x8 = some out → ∀ (H : Heap) (locs : List Loc), va_P (dC, dI) vwCl (ws_X5_layAll cB cI cJ cZ a_this a_cube a_laid a_times a_bits a_colours a_takes a_choice a_isChosen a_column a_next a_barredAt a_ways a_own a_goes a_rowGoes a_mark a_count a_colour v_thrown v_columns v_needed v_rows v_cubes v_placements v_taken v_chosen v_nodes v_found v_isSpent v_told v_kept v_turns v_toldNodes v_cube v_laid) H → va_D A (ws_X5_layAll cB cI cJ cZ a_this a_cube a_laid a_times a_bits a_colours a_takes a_choice a_isChosen a_column a_next a_barredAt a_ways a_own a_goes a_rowGoes a_mark a_count a_colour v_thrown v_columns v_needed v_rows v_cubes v_placements v_taken v_chosen v_nodes v_found v_isSpent v_told v_kept v_turns v_toldNodes v_cube v_laid) → va_S A s.heap H locs → ∀ (ls : Array Slot), lv_has ls 11 [(0, .ref a_this), (1, .int x1), (2, .int x2), (3, .int x3), (4, .int x4), (5, .int x5), (6, .int x6), (7, .int x7), (8, .int x8)] → W p l e (headSpec wsX5_layAll rm_X5_layAll).room s m args below meth c H locs 0 0 (MQ below (qc_X5_layAll A dC dI cB cI cJ cZ a_this a_cube a_laid a_times a_bits a_colours a_takes a_choice a_isChosen a_column a_next a_barredAt a_ways a_own a_goes a_rowGoes a_mark a_count a_colour v_thrown v_columns v_needed v_rows v_cubes v_taken v_chosen v_nodes v_found v_isSpent v_told v_kept v_turns v_toldNodes v_cube out) args s 0 0 A) (F0 m 56 ls [])
abbrev g_X5_layAll_129 (p : Program) (l : Launch) (e : Env) (s : State) (m : MethodId) (args : Array Value) (below : List Frame) (meth : Method) (c : Code) (A : Nat → Prop) (dC : Nat → ClassId) (dI : Nat → Nat → Nat) (cB cI cJ cZ : ClassId) (a_this a_cube a_laid a_times a_bits a_colours a_takes a_choice a_isChosen a_column a_next a_barredAt a_ways a_own a_goes a_rowGoes a_mark a_count a_colour : Nat) (v_thrown : Int32) (v_columns : Int32) (v_needed : Int32) (v_rows : Int32) (v_cubes : Int32) (v_taken : Int32) (v_chosen : Int32) (v_nodes : Int32) (v_found : Int32) (v_isSpent : Int32) (v_told : Int32) (v_kept : Int32) (v_turns : Int32) (v_toldNodes : Int32) (v_cube : (Nat → Int32)) (out : Int32 × Int32 × (Nat → Int32)) (k : Int32 → (Nat → Int32) → Int32 → Int32 → Int32 → Int32 → Int32 → Int32 → Option (Int32 × Int32 × (Nat → Int32))) : Prop := ∀ (v_placements : Int32) (v_laid : (Nat → Int32)) (x1 : Int32) (x2 : Int32) (x3 : Int32) (x4 : Int32) (x5 : Int32) (x6 : Int32), k v_placements v_laid x1 x2 x3 x4 x5 x6 = some out → ∀ (H : Heap) (locs : List Loc), va_P (dC, dI) vwCl (ws_X5_layAll cB cI cJ cZ a_this a_cube a_laid a_times a_bits a_colours a_takes a_choice a_isChosen a_column a_next a_barredAt a_ways a_own a_goes a_rowGoes a_mark a_count a_colour v_thrown v_columns v_needed v_rows v_cubes v_placements v_taken v_chosen v_nodes v_found v_isSpent v_told v_kept v_turns v_toldNodes v_cube v_laid) H → va_D A (ws_X5_layAll cB cI cJ cZ a_this a_cube a_laid a_times a_bits a_colours a_takes a_choice a_isChosen a_column a_next a_barredAt a_ways a_own a_goes a_rowGoes a_mark a_count a_colour v_thrown v_columns v_needed v_rows v_cubes v_placements v_taken v_chosen v_nodes v_found v_isSpent v_told v_kept v_turns v_toldNodes v_cube v_laid) → va_S A s.heap H locs → ∀ (ls : Array Slot), lv_has ls 11 [(0, .ref a_this), (1, .int x1), (2, .int x2), (3, .int x3), (4, .int x4), (5, .int x5), (6, .int x6)] → W p l e (headSpec wsX5_layAll rm_X5_layAll).room s m args below meth c H locs 0 0 (MQ below (qc_X5_layAll A dC dI cB cI cJ cZ a_this a_cube a_laid a_times a_bits a_colours a_takes a_choice a_isChosen a_column a_next a_barredAt a_ways a_own a_goes a_rowGoes a_mark a_count a_colour v_thrown v_columns v_needed v_rows v_cubes v_taken v_chosen v_nodes v_found v_isSpent v_told v_kept v_turns v_toldNodes v_cube out) args s 0 0 A) (F0 m 129 ls [])
abbrev g_X5_layAll_44 (p : Program) (l : Launch) (e : Env) (s : State) (m : MethodId) (args : Array Value) (below : List Frame) (meth : Method) (c : Code) (A : Nat → Prop) (dC : Nat → ClassId) (dI : Nat → Nat → Nat) (cB cI cJ cZ : ClassId) (a_this a_cube a_laid a_times a_bits a_colours a_takes a_choice a_isChosen a_column a_next a_barredAt a_ways a_own a_goes a_rowGoes a_mark a_count a_colour : Nat) (v_thrown : Int32) (v_columns : Int32) (v_needed : Int32) (v_rows : Int32) (v_cubes : Int32) (v_taken : Int32) (v_chosen : Int32) (v_nodes : Int32) (v_found : Int32) (v_isSpent : Int32) (v_told : Int32) (v_kept : Int32) (v_turns : Int32) (v_toldNodes : Int32) (v_cube : (Nat → Int32)) (out : Int32 × Int32 × (Nat → Int32)) (k : Int32 → (Nat → Int32) → Int32 → Int32 → Int32 → Int32 → Int32 → Int32 → Int32 → Option (Int32 × Int32 × (Nat → Int32))) : Prop := ∀ (v_placements : Int32) (v_laid : (Nat → Int32)) (x1 : Int32) (x2 : Int32) (x3 : Int32) (x4 : Int32) (x5 : Int32) (x6 : Int32) (x7 : Int32), k v_placements v_laid x1 x2 x3 x4 x5 x6 x7 = some out → ∀ (H : Heap) (locs : List Loc), va_P (dC, dI) vwCl (ws_X5_layAll cB cI cJ cZ a_this a_cube a_laid a_times a_bits a_colours a_takes a_choice a_isChosen a_column a_next a_barredAt a_ways a_own a_goes a_rowGoes a_mark a_count a_colour v_thrown v_columns v_needed v_rows v_cubes v_placements v_taken v_chosen v_nodes v_found v_isSpent v_told v_kept v_turns v_toldNodes v_cube v_laid) H → va_D A (ws_X5_layAll cB cI cJ cZ a_this a_cube a_laid a_times a_bits a_colours a_takes a_choice a_isChosen a_column a_next a_barredAt a_ways a_own a_goes a_rowGoes a_mark a_count a_colour v_thrown v_columns v_needed v_rows v_cubes v_placements v_taken v_chosen v_nodes v_found v_isSpent v_told v_kept v_turns v_toldNodes v_cube v_laid) → va_S A s.heap H locs → ∀ (ls : Array Slot), lv_has ls 11 [(0, .ref a_this), (1, .int x1), (2, .int x2), (3, .int x3), (4, .int x4), (5, .int x5), (6, .int x6), (7, .int x7)] → W p l e (headSpec wsX5_layAll rm_X5_layAll).room s m args below meth c H locs 0 0 (MQ below (qc_X5_layAll A dC dI cB cI cJ cZ a_this a_cube a_laid a_times a_bits a_colours a_takes a_choice a_isChosen a_column a_next a_barredAt a_ways a_own a_goes a_rowGoes a_mark a_count a_colour v_thrown v_columns v_needed v_rows v_cubes v_taken v_chosen v_nodes v_found v_isSpent v_told v_kept v_turns v_toldNodes v_cube out) args s 0 0 A) (F0 m 44 ls [])
abbrev g_X5_layAll_18 (p : Program) (l : Launch) (e : Env) (s : State) (m : MethodId) (args : Array Value) (below : List Frame) (meth : Method) (c : Code) (A : Nat → Prop) (dC : Nat → ClassId) (dI : Nat → Nat → Nat) (cB cI cJ cZ : ClassId) (a_this a_cube a_laid a_times a_bits a_colours a_takes a_choice a_isChosen a_column a_next a_barredAt a_ways a_own a_goes a_rowGoes a_mark a_count a_colour : Nat) (v_thrown : Int32) (v_columns : Int32) (v_needed : Int32) (v_rows : Int32) (v_cubes : Int32) (v_taken : Int32) (v_chosen : Int32) (v_nodes : Int32) (v_found : Int32) (v_isSpent : Int32) (v_told : Int32) (v_kept : Int32) (v_turns : Int32) (v_toldNodes : Int32) (v_cube : (Nat → Int32)) (out : Int32 × Int32 × (Nat → Int32)) (k : Int32 → (Nat → Int32) → Int32 → Int32 → Int32 → Int32 → Int32 → Int32 → Option (Int32 × Int32 × (Nat → Int32))) : Prop := ∀ (v_placements : Int32) (v_laid : (Nat → Int32)) (x1 : Int32) (x2 : Int32) (x3 : Int32) (x4 : Int32) (x5 : Int32) (x6 : Int32), k v_placements v_laid x1 x2 x3 x4 x5 x6 = some out → ∀ (H : Heap) (locs : List Loc), va_P (dC, dI) vwCl (ws_X5_layAll cB cI cJ cZ a_this a_cube a_laid a_times a_bits a_colours a_takes a_choice a_isChosen a_column a_next a_barredAt a_ways a_own a_goes a_rowGoes a_mark a_count a_colour v_thrown v_columns v_needed v_rows v_cubes v_placements v_taken v_chosen v_nodes v_found v_isSpent v_told v_kept v_turns v_toldNodes v_cube v_laid) H → va_D A (ws_X5_layAll cB cI cJ cZ a_this a_cube a_laid a_times a_bits a_colours a_takes a_choice a_isChosen a_column a_next a_barredAt a_ways a_own a_goes a_rowGoes a_mark a_count a_colour v_thrown v_columns v_needed v_rows v_cubes v_placements v_taken v_chosen v_nodes v_found v_isSpent v_told v_kept v_turns v_toldNodes v_cube v_laid) → va_S A s.heap H locs → ∀ (ls : Array Slot), lv_has ls 11 [(0, .ref a_this), (1, .int x1), (2, .int x2), (3, .int x3), (4, .int x4), (5, .int x5), (6, .int x6)] → W p l e (headSpec wsX5_layAll rm_X5_layAll).room s m args below meth c H locs 0 0 (MQ below (qc_X5_layAll A dC dI cB cI cJ cZ a_this a_cube a_laid a_times a_bits a_colours a_takes a_choice a_isChosen a_column a_next a_barredAt a_ways a_own a_goes a_rowGoes a_mark a_count a_colour v_thrown v_columns v_needed v_rows v_cubes v_taken v_chosen v_nodes v_found v_isSpent v_told v_kept v_turns v_toldNodes v_cube out) args s 0 0 A) (F0 m 18 ls [])
abbrev g_X5_layAll_8 (p : Program) (l : Launch) (e : Env) (s : State) (m : MethodId) (args : Array Value) (below : List Frame) (meth : Method) (c : Code) (A : Nat → Prop) (dC : Nat → ClassId) (dI : Nat → Nat → Nat) (cB cI cJ cZ : ClassId) (a_this a_cube a_laid a_times a_bits a_colours a_takes a_choice a_isChosen a_column a_next a_barredAt a_ways a_own a_goes a_rowGoes a_mark a_count a_colour : Nat) (v_thrown : Int32) (v_columns : Int32) (v_needed : Int32) (v_rows : Int32) (v_cubes : Int32) (v_taken : Int32) (v_chosen : Int32) (v_nodes : Int32) (v_found : Int32) (v_isSpent : Int32) (v_told : Int32) (v_kept : Int32) (v_turns : Int32) (v_toldNodes : Int32) (v_cube : (Nat → Int32)) (out : Int32 × Int32 × (Nat → Int32)) (k : Int32 → (Nat → Int32) → Int32 → Int32 → Int32 → Int32 → Int32 → Option (Int32 × Int32 × (Nat → Int32))) : Prop := ∀ (v_placements : Int32) (v_laid : (Nat → Int32)) (x1 : Int32) (x2 : Int32) (x3 : Int32) (x4 : Int32) (x5 : Int32), k v_placements v_laid x1 x2 x3 x4 x5 = some out → ∀ (H : Heap) (locs : List Loc), va_P (dC, dI) vwCl (ws_X5_layAll cB cI cJ cZ a_this a_cube a_laid a_times a_bits a_colours a_takes a_choice a_isChosen a_column a_next a_barredAt a_ways a_own a_goes a_rowGoes a_mark a_count a_colour v_thrown v_columns v_needed v_rows v_cubes v_placements v_taken v_chosen v_nodes v_found v_isSpent v_told v_kept v_turns v_toldNodes v_cube v_laid) H → va_D A (ws_X5_layAll cB cI cJ cZ a_this a_cube a_laid a_times a_bits a_colours a_takes a_choice a_isChosen a_column a_next a_barredAt a_ways a_own a_goes a_rowGoes a_mark a_count a_colour v_thrown v_columns v_needed v_rows v_cubes v_placements v_taken v_chosen v_nodes v_found v_isSpent v_told v_kept v_turns v_toldNodes v_cube v_laid) → va_S A s.heap H locs → ∀ (ls : Array Slot), lv_has ls 11 [(0, .ref a_this), (1, .int x1), (2, .int x2), (3, .int x3), (4, .int x4), (5, .int x5)] → W p l e (headSpec wsX5_layAll rm_X5_layAll).room s m args below meth c H locs 0 0 (MQ below (qc_X5_layAll A dC dI cB cI cJ cZ a_this a_cube a_laid a_times a_bits a_colours a_takes a_choice a_isChosen a_column a_next a_barredAt a_ways a_own a_goes a_rowGoes a_mark a_count a_colour v_thrown v_columns v_needed v_rows v_cubes v_taken v_chosen v_nodes v_found v_isSpent v_told v_kept v_turns v_toldNodes v_cube out) args s 0 0 A) (F0 m 8 ls [])
abbrev g_X5_layAll_0 (p : Program) (l : Launch) (e : Env) (s : State) (m : MethodId) (args : Array Value) (below : List Frame) (meth : Method) (c : Code) (A : Nat → Prop) (dC : Nat → ClassId) (dI : Nat → Nat → Nat) (cB cI cJ cZ : ClassId) (a_this a_cube a_laid a_times a_bits a_colours a_takes a_choice a_isChosen a_column a_next a_barredAt a_ways a_own a_goes a_rowGoes a_mark a_count a_colour : Nat) (v_thrown : Int32) (v_columns : Int32) (v_needed : Int32) (v_rows : Int32) (v_cubes : Int32) (v_taken : Int32) (v_chosen : Int32) (v_nodes : Int32) (v_found : Int32) (v_isSpent : Int32) (v_told : Int32) (v_kept : Int32) (v_turns : Int32) (v_toldNodes : Int32) (v_cube : (Nat → Int32)) (out : Int32 × Int32 × (Nat → Int32)) (k : Int32 → (Nat → Int32) → Int32 → Int32 → Int32 → Int32 → Option (Int32 × Int32 × (Nat → Int32))) : Prop := ∀ (v_placements : Int32) (v_laid : (Nat → Int32)) (x1 : Int32) (x2 : Int32) (x3 : Int32) (x4 : Int32), k v_placements v_laid x1 x2 x3 x4 = some out → ∀ (H : Heap) (locs : List Loc), va_P (dC, dI) vwCl (ws_X5_layAll cB cI cJ cZ a_this a_cube a_laid a_times a_bits a_colours a_takes a_choice a_isChosen a_column a_next a_barredAt a_ways a_own a_goes a_rowGoes a_mark a_count a_colour v_thrown v_columns v_needed v_rows v_cubes v_placements v_taken v_chosen v_nodes v_found v_isSpent v_told v_kept v_turns v_toldNodes v_cube v_laid) H → va_D A (ws_X5_layAll cB cI cJ cZ a_this a_cube a_laid a_times a_bits a_colours a_takes a_choice a_isChosen a_column a_next a_barredAt a_ways a_own a_goes a_rowGoes a_mark a_count a_colour v_thrown v_columns v_needed v_rows v_cubes v_placements v_taken v_chosen v_nodes v_found v_isSpent v_told v_kept v_turns v_toldNodes v_cube v_laid) → va_S A s.heap H locs → ∀ (ls : Array Slot), lv_has ls 11 [(0, .ref a_this), (1, .int x1), (2, .int x2), (3, .int x3), (4, .int x4)] → W p l e (headSpec wsX5_layAll rm_X5_layAll).room s m args below meth c H locs 0 0 (MQ below (qc_X5_layAll A dC dI cB cI cJ cZ a_this a_cube a_laid a_times a_bits a_colours a_takes a_choice a_isChosen a_column a_next a_barredAt a_ways a_own a_goes a_rowGoes a_mark a_count a_colour v_thrown v_columns v_needed v_rows v_cubes v_taken v_chosen v_nodes v_found v_isSpent v_told v_kept v_turns v_toldNodes v_cube out) args s 0 0 A) (F0 m 0 ls [])
set_option maxHeartbeats 4000000 in
set_option maxRecDepth 100000 in
theorem w_X5_layAll_111 {p : Program} {l : Launch} {e : Env} {s : State} {m : MethodId} {args : Array Value} {below : List Frame} {meth : Method} {c : Code} {A : Nat → Prop} {dC : Nat → ClassId} {dI : Nat → Nat → Nat} {cB cI cJ cZ : ClassId} {a_this a_cube a_laid a_times a_bits a_colours a_takes a_choice a_isChosen a_column a_next a_barredAt a_ways a_own a_goes a_rowGoes a_mark a_count a_colour : Nat} {v_thrown : Int32} {v_columns : Int32} {v_needed : Int32} {v_rows : Int32} {v_cubes : Int32} {v_taken : Int32} {v_chosen : Int32} {v_nodes : Int32} {v_found : Int32} {v_isSpent : Int32} {v_told : Int32} {v_kept : Int32} {v_turns : Int32} {v_toldNodes : Int32} {v_cube : (Nat → Int32)} {out : Int32 × Int32 × (Nat → Int32)} (C0 : Cx RX5 cX5_layAll (some .boolean) 11 wsX5_layAll p s m args meth c A) (hK : va_K (dC, dI) vwCl (tysG cB cI cJ cZ) s) {k_8 : Int32 → (Nat → Int32) → Int32 → Int32 → Int32 → Int32 → Int32 → Option (Int32 × Int32 × (Nat → Int32))} (hk_8 : g_X5_layAll_8 p l e s m args below meth c A dC dI cB cI cJ cZ a_this a_cube a_laid a_times a_bits a_colours a_takes a_choice a_isChosen a_column a_next a_barredAt a_ways a_own a_goes a_rowGoes a_mark a_count a_colour v_thrown v_columns v_needed v_rows v_cubes v_taken v_chosen v_nodes v_found v_isSpent v_told v_kept v_turns v_toldNodes v_cube out k_8) {k_18 : Int32 → (Nat → Int32) → Int32 → Int32 → Int32 → Int32 → Int32 → Int32 → Option (Int32 × Int32 × (Nat → Int32))} (hk_18 : g_X5_layAll_18 p l e s m args below meth c A dC dI cB cI cJ cZ a_this a_cube a_laid a_times a_bits a_colours a_takes a_choice a_isChosen a_column a_next a_barredAt a_ways a_own a_goes a_rowGoes a_mark a_count a_colour v_thrown v_columns v_needed v_rows v_cubes v_taken v_chosen v_nodes v_found v_isSpent v_told v_kept v_turns v_toldNodes v_cube out k_18) {k_44 : Int32 → (Nat → Int32) → Int32 → Int32 → Int32 → Int32 → Int32 → Int32 → Int32 → Option (Int32 × Int32 × (Nat → Int32))} (hk_44 : g_X5_layAll_44 p l e s m args below meth c A dC dI cB cI cJ cZ a_this a_cube a_laid a_times a_bits a_colours a_takes a_choice a_isChosen a_column a_next a_barredAt a_ways a_own a_goes a_rowGoes a_mark a_count a_colour v_thrown v_columns v_needed v_rows v_cubes v_taken v_chosen v_nodes v_found v_isSpent v_told v_kept v_turns v_toldNodes v_cube out k_44) {k_56 : Int32 → (Nat → Int32) → Int32 → Int32 → Int32 → Int32 → Int32 → Int32 → Int32 → Int32 → Option (Int32 × Int32 × (Nat → Int32))} (hk_56 : g_X5_layAll_56 p l e s m args below meth c A dC dI cB cI cJ cZ a_this a_cube a_laid a_times a_bits a_colours a_takes a_choice a_isChosen a_column a_next a_barredAt a_ways a_own a_goes a_rowGoes a_mark a_count a_colour v_thrown v_columns v_needed v_rows v_cubes v_taken v_chosen v_nodes v_found v_isSpent v_told v_kept v_turns v_toldNodes v_cube out k_56) {k_68 : Int32 → (Nat → Int32) → Int32 → Int32 → Int32 → Int32 → Int32 → Int32 → Int32 → Int32 → Int32 → Option (Int32 × Int32 × (Nat → Int32))} (hk_68 : g_X5_layAll_68 p l e s m args below meth c A dC dI cB cI cJ cZ a_this a_cube a_laid a_times a_bits a_colours a_takes a_choice a_isChosen a_column a_next a_barredAt a_ways a_own a_goes a_rowGoes a_mark a_count a_colour v_thrown v_columns v_needed v_rows v_cubes v_taken v_chosen v_nodes v_found v_isSpent v_told v_kept v_turns v_toldNodes v_cube out k_68) : g_X5_layAll_111 p l e s m args below meth c A dC dI cB cI cJ cZ a_this a_cube a_laid a_times a_bits a_colours a_takes a_choice a_isChosen a_column a_next a_barredAt a_ways a_own a_goes a_rowGoes a_mark a_count a_colour v_thrown v_columns v_needed v_rows v_cubes v_taken v_chosen v_nodes v_found v_isSpent v_told v_kept v_turns v_toldNodes v_cube out (f_X5_layAll_111 v_cubes v_cube k_8 k_18 k_44 k_56 k_68) := by
  obtain ⟨hx, hb, hr, hml, hown, hts, hlocks, hA⟩ := id C0
  intro v_placements v_laid x1 x2 x3 x4 x5 x6 x7 x8 x9 hf H locs hP hD hS ls hl
  replace hf : ((k_68 v_placements v_laid x1 x2 x3 x4 x5 x6 x7 x8 (x9 + 1)) : Option (Int32 × Int32 × (Nat → Int32))) = some out := hf
  refine lv_iinc (v := (x9 + 1)) (lv' := [(9, .int (x9 + 1)), (0, .ref a_this), (1, .int x1), (2, .int x2), (3, .int x3), (4, .int x4), (5, .int x5), (6, .int x6), (7, .int x7), (8, .int x8)]) hx hb dX5_layAll_111 hl (k := 9) rfl rfl (by decide) rfl (fun ls hl => ?_)
  refine lv_goto (tgt := 68) hx hb dX5_layAll_114 (by decide) ?_
  exact hk_68 v_placements v_laid x1 x2 x3 x4 x5 x6 x7 x8 (x9 + 1) hf _ _ hP hD hS ls (lv_sub hl [1, 2, 3, 4, 5, 6, 7, 8, 9, 0] rfl)
set_option maxHeartbeats 4000000 in
set_option maxRecDepth 100000 in
theorem w_X5_layAll_68 {p : Program} {l : Launch} {e : Env} {s : State} {m : MethodId} {args : Array Value} {below : List Frame} {meth : Method} {c : Code} {A : Nat → Prop} {dC : Nat → ClassId} {dI : Nat → Nat → Nat} {cB cI cJ cZ : ClassId} {a_this a_cube a_laid a_times a_bits a_colours a_takes a_choice a_isChosen a_column a_next a_barredAt a_ways a_own a_goes a_rowGoes a_mark a_count a_colour : Nat} {v_thrown : Int32} {v_columns : Int32} {v_needed : Int32} {v_rows : Int32} {v_cubes : Int32} {v_taken : Int32} {v_chosen : Int32} {v_nodes : Int32} {v_found : Int32} {v_isSpent : Int32} {v_told : Int32} {v_kept : Int32} {v_turns : Int32} {v_toldNodes : Int32} {v_cube : (Nat → Int32)} {out : Int32 × Int32 × (Nat → Int32)} (C0 : Cx RX5 cX5_layAll (some .boolean) 11 wsX5_layAll p s m args meth c A) (hK : va_K (dC, dI) vwCl (tysG cB cI cJ cZ) s) {k_8 : Int32 → (Nat → Int32) → Int32 → Int32 → Int32 → Int32 → Int32 → Option (Int32 × Int32 × (Nat → Int32))} (hk_8 : g_X5_layAll_8 p l e s m args below meth c A dC dI cB cI cJ cZ a_this a_cube a_laid a_times a_bits a_colours a_takes a_choice a_isChosen a_column a_next a_barredAt a_ways a_own a_goes a_rowGoes a_mark a_count a_colour v_thrown v_columns v_needed v_rows v_cubes v_taken v_chosen v_nodes v_found v_isSpent v_told v_kept v_turns v_toldNodes v_cube out k_8) {k_18 : Int32 → (Nat → Int32) → Int32 → Int32 → Int32 → Int32 → Int32 → Int32 → Option (Int32 × Int32 × (Nat → Int32))} (hk_18 : g_X5_layAll_18 p l e s m args below meth c A dC dI cB cI cJ cZ a_this a_cube a_laid a_times a_bits a_colours a_takes a_choice a_isChosen a_column a_next a_barredAt a_ways a_own a_goes a_rowGoes a_mark a_count a_colour v_thrown v_columns v_needed v_rows v_cubes v_taken v_chosen v_nodes v_found v_isSpent v_told v_kept v_turns v_toldNodes v_cube out k_18) {k_44 : Int32 → (Nat → Int32) → Int32 → Int32 → Int32 → Int32 → Int32 → Int32 → Int32 → Option (Int32 × Int32 × (Nat → Int32))} (hk_44 : g_X5_layAll_44 p l e s m args below meth c A dC dI cB cI cJ cZ a_this a_cube a_laid a_times a_bits a_colours a_takes a_choice a_isChosen a_column a_next a_barredAt a_ways a_own a_goes a_rowGoes a_mark a_count a_colour v_thrown v_columns v_needed v_rows v_cubes v_taken v_chosen v_nodes v_found v_isSpent v_told v_kept v_turns v_toldNodes v_cube out k_44) {k_56 : Int32 → (Nat → Int32) → Int32 → Int32 → Int32 → Int32 → Int32 → Int32 → Int32 → Int32 → Option (Int32 × Int32 × (Nat → Int32))} (hk_56 : g_X5_layAll_56 p l e s m args below meth c A dC dI cB cI cJ cZ a_this a_cube a_laid a_times a_bits a_colours a_takes a_choice a_isChosen a_column a_next a_barredAt a_ways a_own a_goes a_rowGoes a_mark a_count a_colour v_thrown v_columns v_needed v_rows v_cubes v_taken v_chosen v_nodes v_found v_isSpent v_told v_kept v_turns v_toldNodes v_cube out k_56) : ∀ n : Nat, g_X5_layAll_68 p l e s m args below meth c A dC dI cB cI cJ cZ a_this a_cube a_laid a_times a_bits a_colours a_takes a_choice a_isChosen a_column a_next a_barredAt a_ways a_own a_goes a_rowGoes a_mark a_count a_colour v_thrown v_columns v_needed v_rows v_cubes v_taken v_chosen v_nodes v_found v_isSpent v_told v_kept v_turns v_toldNodes v_cube out (f_X5_layAll_68 v_cubes v_cube k_8 k_18 k_44 k_56 n) := by
  obtain ⟨hx, hb, hr, hml, hown, hts, hlocks, hA⟩ := id C0
  intro n
  induction n with
  | zero =>
    intro v_placements v_laid x1 x2 x3 x4 x5 x6 x7 x8 x9 hf H locs hP hD hS ls hl
    exact nomatch (show (none : Option (Int32 × Int32 × (Nat → Int32))) = some out from hf)
  | succ n ih =>
    intro v_placements v_laid x1 x2 x3 x4 x5 x6 x7 x8 x9 hf H locs hP hD hS ls hl
    replace hf : ((if (x1 + (1 : Int32)) < x9 then
  (k_56 v_placements v_laid x1 x2 x3 x4 x5 x6 x7 (x8 + 1))
  else
  ((f_X5_placed v_cubes v_cube x5 x6 x9 x8 x7 x1 x2 x3).bind (fun o_2 =>
  if o_2.1 < 0 then
  (f_X5_layAll_111 v_cubes v_cube k_8 k_18 k_44 k_56 (f_X5_layAll_68 v_cubes v_cube k_8 k_18 k_44 k_56 n) v_placements v_laid x1 x2 x3 x4 x5 x6 x7 x8 x9)
  else
  ((f_X5_lays v_placements v_laid o_2.1).bind (fun o_4 =>
  if o_4.1 = 0 then
  (some (((0 : Int32), (o_4.2.1, o_4.2.2))))
  else
  (f_X5_layAll_111 v_cubes v_cube k_8 k_18 k_44 k_56 (f_X5_layAll_68 v_cubes v_cube k_8 k_18 k_44 k_56 n) o_4.2.1 o_4.2.2 x1 x2 x3 x4 x5 x6 x7 x8 x9)))))) : Option (Int32 × Int32 × (Nat → Int32))) = some out := hf
    refine lv_iload hx hb dX5_layAll_68 (lv_at hl 9 rfl) ?_
    refine lv_iload_n hx hb dX5_layAll_70 rfl (lv_at hl 1 rfl) ?_
    refine lv_iconst (v := 1) hx hb dX5_layAll_71 (by decide) ?_
    refine lv_iadd hx hb dX5_layAll_72 ?_
    refine lv_icmp_gt (tgt := 117) hx hb dX5_layAll_73 (by decide) (fun c_1 => ?_) (fun c_1 => ?_)
    · replace hf := (if_pos c_1).symm.trans hf
      refine lv_iinc (v := (x8 + 1)) (lv' := [(8, .int (x8 + 1)), (0, .ref a_this), (1, .int x1), (2, .int x2), (3, .int x3), (4, .int x4), (5, .int x5), (6, .int x6), (7, .int x7), (9, .int x9)]) hx hb dX5_layAll_117 hl (k := 8) rfl rfl (by decide) rfl (fun ls hl => ?_)
      refine lv_goto (tgt := 56) hx hb dX5_layAll_120 (by decide) ?_
      exact hk_56 v_placements v_laid x1 x2 x3 x4 x5 x6 x7 (x8 + 1) hf _ _ hP hD hS ls (lv_sub hl [1, 2, 3, 4, 5, 6, 7, 8, 0] rfl)
    · replace hf := (if_neg c_1).symm.trans hf
      refine lv_aload_n hx hb dX5_layAll_76 rfl (lv_at hl 0 rfl) ?_
      refine lv_iload hx hb dX5_layAll_77 (lv_at hl 5 rfl) ?_
      refine lv_iload hx hb dX5_layAll_79 (lv_at hl 6 rfl) ?_
      refine lv_iload hx hb dX5_layAll_81 (lv_at hl 9 rfl) ?_
      refine lv_iload hx hb dX5_layAll_83 (lv_at hl 8 rfl) ?_
      refine lv_iload hx hb dX5_layAll_85 (lv_at hl 7 rfl) ?_
      refine lv_iload_n hx hb dX5_layAll_87 rfl (lv_at hl 1 rfl) ?_
      refine lv_iload_n hx hb dX5_layAll_88 rfl (lv_at hl 2 rfl) ?_
      refine lv_iload_n hx hb dX5_layAll_89 rfl (lv_at hl 3 rfl) ?_
      obtain ⟨o_2, ho_2, hf⟩ := gd_bd hf
      have hPc := hP.sub (ws' := ws_X5_placed cB cI cJ cZ a_this a_cube a_times a_bits a_colours a_laid a_takes a_choice a_isChosen a_column a_next a_barredAt a_ways a_own a_goes a_rowGoes a_mark a_count a_colour v_thrown v_columns v_needed v_rows v_cubes v_placements v_taken v_chosen v_nodes v_found v_isSpent v_told v_kept v_turns v_toldNodes v_cube) [0, 1] rfl
      have hDc := hD.sub (ws' := ws_X5_placed cB cI cJ cZ a_this a_cube a_times a_bits a_colours a_laid a_takes a_choice a_isChosen a_column a_next a_barredAt a_ways a_own a_goes a_rowGoes a_mark a_count a_colour v_thrown v_columns v_needed v_rows v_cubes v_placements v_taken v_chosen v_nodes v_found v_isSpent v_told v_kept v_turns v_toldNodes v_cube) [0, 1] (by decide) rfl
      have hFc := va_free (wc := ws_X5_placed cB cI cJ cZ a_this a_cube a_times a_bits a_colours a_laid a_takes a_choice a_isChosen a_column a_next a_barredAt a_ways a_own a_goes a_rowGoes a_mark a_count a_colour v_thrown v_columns v_needed v_rows v_cubes v_placements v_taken v_chosen v_nodes v_found v_isSpent v_told v_kept v_turns v_toldNodes v_cube) hD hS hA [0, 1] rfl
      refine va_calli (va_runV (As := [.int x5, .int x6, .int x9, .int x8, .int x7, .int x1, .int x2, .int x3]) (rest := []) ⟨hx, hb, hml, hown, hts⟩ (c_X5_placed l dC dI cB cI cJ cZ a_this a_cube a_times a_bits a_colours a_laid a_takes a_choice a_isChosen a_column a_next a_barredAt a_ways a_own a_goes a_rowGoes a_mark a_count a_colour H.size v_thrown v_columns v_needed v_rows v_cubes v_placements v_taken v_chosen v_nodes v_found v_isSpent v_told v_kept v_turns v_toldNodes v_cube x5 x6 x9 x8 x7 x1 x2 x3 o_2 ho_2) (cwV 8 hts gX5_layAll_X5_placed rfl rfl rfl ⟨rfl, nd_X5_placed⟩ ⟨Nat.le_of_ble_eq_true rfl, Nat.le_of_ble_eq_true rfl⟩) ⟨fun a U g mk q => by obtain ⟨q0, q1, qP, qK, qD⟩ := q; exact ⟨q0, q1, qP, va_K.moved (u := U) (U := U.calling g mk a) (Vm.Alike.refl U.vm) qK, qD⟩, va_recv hK hPc (ci := 6) (q0 := 0) rfl rfl, fun U hU hW => ⟨rfl, by rw [hU], by rw [hU]; exact hPc, va_K.moved hW.alike hK, hDc.weaken (fun _ _ _ _ => trivial)⟩⟩ rfl rfl hl.1 rfl (lv_room (Nat.le_of_ble_eq_true rfl)) dX5_layAll_90 ⟨Nat.le_of_ble_eq_true rfl, Nat.le_of_ble_eq_true rfl⟩) hS (fun q _ h => hFc q h) hFc (fun r_2 u_2 t H1 locs ht hvm hw hB hz1 hk1 hS => ?_)
      obtain ⟨rfl, rfl⟩ := hw
      obtain ⟨hP1, hK1, hD1⟩ := hB
      rw [ht] at hP1
      obtain ⟨hP, hD⟩ := va_join (wr := [(a_laid, .inl (cI, 60, .inl v_laid))]) (w1 := ws_X5_placed cB cI cJ cZ a_this a_cube a_times a_bits a_colours a_laid a_takes a_choice a_isChosen a_column a_next a_barredAt a_ways a_own a_goes a_rowGoes a_mark a_count a_colour v_thrown v_columns v_needed v_rows v_cubes v_placements v_taken v_chosen v_nodes v_found v_isSpent v_told v_kept v_turns v_toldNodes v_cube) hP hD [0, 1] [2] rfl rfl (by decide) (by decide) hk1 hFc hP1 hD1
      generalize H1 = H at hP hS ⊢
      have hP : va_P (dC, dI) vwCl (ws_X5_layAll cB cI cJ cZ a_this a_cube a_laid a_times a_bits a_colours a_takes a_choice a_isChosen a_column a_next a_barredAt a_ways a_own a_goes a_rowGoes a_mark a_count a_colour v_thrown v_columns v_needed v_rows v_cubes v_placements v_taken v_chosen v_nodes v_found v_isSpent v_told v_kept v_turns v_toldNodes v_cube v_laid) H := hP.sub [1, 2, 0] rfl
      have hD : va_D A (ws_X5_layAll cB cI cJ cZ a_this a_cube a_laid a_times a_bits a_colours a_takes a_choice a_isChosen a_column a_next a_barredAt a_ways a_own a_goes a_rowGoes a_mark a_count a_colour v_thrown v_columns v_needed v_rows v_cubes v_placements v_taken v_chosen v_nodes v_found v_isSpent v_told v_kept v_turns v_toldNodes v_cube v_laid) := hD.sub [1, 2, 0] (by decide) rfl
      refine lv_istore (lv' := [(10, .int o_2.1), (0, .ref a_this), (1, .int x1), (2, .int x2), (3, .int x3), (4, .int x4), (5, .int x5), (6, .int x6), (7, .int x7), (8, .int x8), (9, .int x9)]) hx hb dX5_layAll_93 hl (by decide) rfl (fun ls hl => ?_)
      refine lv_iload hx hb dX5_layAll_95 (lv_at hl 0 rfl) ?_
      refine lv_if_lt (tgt := 111) hx hb dX5_layAll_97 (by decide) (fun c_3 => ?_) (fun c_3 => ?_)
      · replace hf := (if_pos c_3).symm.trans hf
        exact w_X5_layAll_111 C0 hK hk_8 hk_18 hk_44 hk_56 ih v_placements v_laid x1 x2 x3 x4 x5 x6 x7 x8 x9 hf _ _ hP hD hS ls (lv_sub hl [1, 2, 3, 4, 5, 6, 7, 8, 9, 10] rfl)
      · replace hf := (if_neg c_3).symm.trans hf
        refine lv_aload_n hx hb dX5_layAll_100 rfl (lv_at hl 1 rfl) ?_
        refine lv_iload hx hb dX5_layAll_101 (lv_at hl 0 rfl) ?_
        obtain ⟨o_4, ho_4, hf⟩ := gd_bd hf
        have hPc := hP.sub (ws' := ws_X5_lays cB cI cJ cZ a_this a_laid a_times a_bits a_colours a_cube a_takes a_choice a_isChosen a_column a_next a_barredAt a_ways a_own a_goes a_rowGoes a_mark a_count a_colour v_thrown v_columns v_needed v_rows v_cubes v_placements v_taken v_chosen v_nodes v_found v_isSpent v_told v_kept v_turns v_toldNodes v_laid) [0, 2] rfl
        have hDc := hD.sub (ws' := ws_X5_lays cB cI cJ cZ a_this a_laid a_times a_bits a_colours a_cube a_takes a_choice a_isChosen a_column a_next a_barredAt a_ways a_own a_goes a_rowGoes a_mark a_count a_colour v_thrown v_columns v_needed v_rows v_cubes v_placements v_taken v_chosen v_nodes v_found v_isSpent v_told v_kept v_turns v_toldNodes v_laid) [0, 2] (by decide) rfl
        have hFc := va_free (wc := ws_X5_lays cB cI cJ cZ a_this a_laid a_times a_bits a_colours a_cube a_takes a_choice a_isChosen a_column a_next a_barredAt a_ways a_own a_goes a_rowGoes a_mark a_count a_colour v_thrown v_columns v_needed v_rows v_cubes v_placements v_taken v_chosen v_nodes v_found v_isSpent v_told v_kept v_turns v_toldNodes v_laid) hD hS hA [0, 2] rfl
        refine va_calli (va_runV (As := [.int o_2.1]) (rest := []) ⟨hx, hb, hml, hown, hts⟩ (c_X5_lays l dC dI cB cI cJ cZ a_this a_laid a_times a_bits a_colours a_cube a_takes a_choice a_isChosen a_column a_next a_barredAt a_ways a_own a_goes a_rowGoes a_mark a_count a_colour H.size v_thrown v_columns v_needed v_rows v_cubes v_placements v_taken v_chosen v_nodes v_found v_isSpent v_told v_kept v_turns v_toldNodes v_laid o_2.1 o_4 ho_4) (cwV 1 hts gX5_layAll_X5_lays rfl rfl rfl ⟨rfl, nd_X5_lays⟩ ⟨Nat.le_of_ble_eq_true rfl, Nat.le_of_ble_eq_true rfl⟩) ⟨fun a U g mk q => by obtain ⟨q0, q1, qP, qK, qD⟩ := q; exact ⟨q0, q1, qP, va_K.moved (u := U) (U := U.calling g mk a) (Vm.Alike.refl U.vm) qK, qD⟩, va_recv hK hPc (ci := 6) (q0 := 0) rfl rfl, fun U hU hW => ⟨rfl, by rw [hU], by rw [hU]; exact hPc, va_K.moved hW.alike hK, hDc.weaken (fun _ _ _ _ => trivial)⟩⟩ rfl rfl hl.1 rfl (lv_room (Nat.le_of_ble_eq_true rfl)) dX5_layAll_103 ⟨Nat.le_of_ble_eq_true rfl, Nat.le_of_ble_eq_true rfl⟩) hS (fun q _ h => hFc q h) hFc (fun r_4 u_4 t H1 locs ht hvm hw hB hz1 hk1 hS => ?_)
        obtain ⟨rfl, rfl⟩ := hw
        obtain ⟨hP1, hK1, hD1⟩ := hB
        rw [ht] at hP1
        obtain ⟨hP, hD⟩ := va_join (wr := [(a_cube, .inl (cI, 7, .inl v_cube))]) (w1 := ws_X5_lays cB cI cJ cZ a_this a_laid a_times a_bits a_colours a_cube a_takes a_choice a_isChosen a_column a_next a_barredAt a_ways a_own a_goes a_rowGoes a_mark a_count a_colour v_thrown v_columns v_needed v_rows v_cubes o_4.2.1 v_taken v_chosen v_nodes v_found v_isSpent v_told v_kept v_turns v_toldNodes o_4.2.2) hP hD [0, 2] [1] rfl rfl (by decide) (by decide) hk1 hFc hP1 hD1
        generalize H1 = H at hP hS ⊢
        have hP : va_P (dC, dI) vwCl (ws_X5_layAll cB cI cJ cZ a_this a_cube a_laid a_times a_bits a_colours a_takes a_choice a_isChosen a_column a_next a_barredAt a_ways a_own a_goes a_rowGoes a_mark a_count a_colour v_thrown v_columns v_needed v_rows v_cubes o_4.2.1 v_taken v_chosen v_nodes v_found v_isSpent v_told v_kept v_turns v_toldNodes v_cube o_4.2.2) H := hP.sub [1, 0, 2] rfl
        have hD : va_D A (ws_X5_layAll cB cI cJ cZ a_this a_cube a_laid a_times a_bits a_colours a_takes a_choice a_isChosen a_column a_next a_barredAt a_ways a_own a_goes a_rowGoes a_mark a_count a_colour v_thrown v_columns v_needed v_rows v_cubes o_4.2.1 v_taken v_chosen v_nodes v_found v_isSpent v_told v_kept v_turns v_toldNodes v_cube o_4.2.2) := hD.sub [1, 0, 2] (by decide) rfl
        refine lv_if_ne (tgt := 111) hx hb dX5_layAll_106 (by decide) (fun c_5 => ?_) (fun c_5 => ?_)
        · replace hf := (if_neg c_5).symm.trans hf
          exact w_X5_layAll_111 C0 hK hk_8 hk_18 hk_44 hk_56 ih o_4.2.1 o_4.2.2 x1 x2 x3 x4 x5 x6 x7 x8 x9 hf _ _ hP hD hS ls (lv_sub hl [1, 2, 3, 4, 5, 6, 7, 8, 9, 10] rfl)
        · replace hf := (if_pos c_5).symm.trans hf
          refine lv_iconst (v := 0) hx hb dX5_layAll_109 (by decide) ?_
          have h9 := Option.some.inj hf
          have h8 := congrArg Prod.fst h9
          have h7 := congrArg Prod.snd h9
          exact W.zret (v := (0 : Int32)) hx hb hr rfl (fun t ht hW => ⟨⟨(0 : Int32), (o_4.2.1, o_4.2.2), rfl, ⟨h8, h7⟩, by rw [ht]; exact hP, va_K.moved hW.alike hK, hD⟩, hS.F ht⟩) hS.2.2 dX5_layAll_110
set_option maxHeartbeats 4000000 in
set_option maxRecDepth 100000 in
theorem w_X5_layAll_56 {p : Program} {l : Launch} {e : Env} {s : State} {m : MethodId} {args : Array Value} {below : List Frame} {meth : Method} {c : Code} {A : Nat → Prop} {dC : Nat → ClassId} {dI : Nat → Nat → Nat} {cB cI cJ cZ : ClassId} {a_this a_cube a_laid a_times a_bits a_colours a_takes a_choice a_isChosen a_column a_next a_barredAt a_ways a_own a_goes a_rowGoes a_mark a_count a_colour : Nat} {v_thrown : Int32} {v_columns : Int32} {v_needed : Int32} {v_rows : Int32} {v_cubes : Int32} {v_taken : Int32} {v_chosen : Int32} {v_nodes : Int32} {v_found : Int32} {v_isSpent : Int32} {v_told : Int32} {v_kept : Int32} {v_turns : Int32} {v_toldNodes : Int32} {v_cube : (Nat → Int32)} {out : Int32 × Int32 × (Nat → Int32)} (C0 : Cx RX5 cX5_layAll (some .boolean) 11 wsX5_layAll p s m args meth c A) (hK : va_K (dC, dI) vwCl (tysG cB cI cJ cZ) s) {k_8 : Int32 → (Nat → Int32) → Int32 → Int32 → Int32 → Int32 → Int32 → Option (Int32 × Int32 × (Nat → Int32))} (hk_8 : g_X5_layAll_8 p l e s m args below meth c A dC dI cB cI cJ cZ a_this a_cube a_laid a_times a_bits a_colours a_takes a_choice a_isChosen a_column a_next a_barredAt a_ways a_own a_goes a_rowGoes a_mark a_count a_colour v_thrown v_columns v_needed v_rows v_cubes v_taken v_chosen v_nodes v_found v_isSpent v_told v_kept v_turns v_toldNodes v_cube out k_8) {k_18 : Int32 → (Nat → Int32) → Int32 → Int32 → Int32 → Int32 → Int32 → Int32 → Option (Int32 × Int32 × (Nat → Int32))} (hk_18 : g_X5_layAll_18 p l e s m args below meth c A dC dI cB cI cJ cZ a_this a_cube a_laid a_times a_bits a_colours a_takes a_choice a_isChosen a_column a_next a_barredAt a_ways a_own a_goes a_rowGoes a_mark a_count a_colour v_thrown v_columns v_needed v_rows v_cubes v_taken v_chosen v_nodes v_found v_isSpent v_told v_kept v_turns v_toldNodes v_cube out k_18) {k_44 : Int32 → (Nat → Int32) → Int32 → Int32 → Int32 → Int32 → Int32 → Int32 → Int32 → Option (Int32 × Int32 × (Nat → Int32))} (hk_44 : g_X5_layAll_44 p l e s m args below meth c A dC dI cB cI cJ cZ a_this a_cube a_laid a_times a_bits a_colours a_takes a_choice a_isChosen a_column a_next a_barredAt a_ways a_own a_goes a_rowGoes a_mark a_count a_colour v_thrown v_columns v_needed v_rows v_cubes v_taken v_chosen v_nodes v_found v_isSpent v_told v_kept v_turns v_toldNodes v_cube out k_44) : ∀ n : Nat, g_X5_layAll_56 p l e s m args below meth c A dC dI cB cI cJ cZ a_this a_cube a_laid a_times a_bits a_colours a_takes a_choice a_isChosen a_column a_next a_barredAt a_ways a_own a_goes a_rowGoes a_mark a_count a_colour v_thrown v_columns v_needed v_rows v_cubes v_taken v_chosen v_nodes v_found v_isSpent v_told v_kept v_turns v_toldNodes v_cube out (f_X5_layAll_56 v_cubes v_cube k_8 k_18 k_44 n) := by
  obtain ⟨hx, hb, hr, hml, hown, hts, hlocks, hA⟩ := id C0
  intro n
  induction n with
  | zero =>
    intro v_placements v_laid x1 x2 x3 x4 x5 x6 x7 x8 hf H locs hP hD hS ls hl
    exact nomatch (show (none : Option (Int32 × Int32 × (Nat → Int32))) = some out from hf)
  | succ n ih =>
    intro v_placements v_laid x1 x2 x3 x4 x5 x6 x7 x8 hf H locs hP hD hS ls hl
    replace hf : ((if (x2 + (1 : Int32)) < x8 then
  (k_44 v_placements v_laid x1 x2 x3 x4 x5 x6 (x7 + 1))
  else
  (f_X5_layAll_68 v_cubes v_cube k_8 k_18 k_44 (f_X5_layAll_56 v_cubes v_cube k_8 k_18 k_44 n) 1000000 v_placements v_laid x1 x2 x3 x4 x5 x6 x7 x8 (-2 : Int32))) : Option (Int32 × Int32 × (Nat → Int32))) = some out := hf
    refine lv_iload hx hb dX5_layAll_56 (lv_at hl 8 rfl) ?_
    refine lv_iload_n hx hb dX5_layAll_58 rfl (lv_at hl 2 rfl) ?_
    refine lv_iconst (v := 1) hx hb dX5_layAll_59 (by decide) ?_
    refine lv_iadd hx hb dX5_layAll_60 ?_
    refine lv_icmp_gt (tgt := 123) hx hb dX5_layAll_61 (by decide) (fun c_6 => ?_) (fun c_6 => ?_)
    · replace hf := (if_pos c_6).symm.trans hf
      refine lv_iinc (v := (x7 + 1)) (lv' := [(7, .int (x7 + 1)), (0, .ref a_this), (1, .int x1), (2, .int x2), (3, .int x3), (4, .int x4), (5, .int x5), (6, .int x6), (8, .int x8)]) hx hb dX5_layAll_123 hl (k := 7) rfl rfl (by decide) rfl (fun ls hl => ?_)
      refine lv_goto (tgt := 44) hx hb dX5_layAll_126 (by decide) ?_
      exact hk_44 v_placements v_laid x1 x2 x3 x4 x5 x6 (x7 + 1) hf _ _ hP hD hS ls (lv_sub hl [1, 2, 3, 4, 5, 6, 7, 0] rfl)
    · replace hf := (if_neg c_6).symm.trans hf
      refine lv_bipush (v := -2) hx hb dX5_layAll_64 (by decide) ?_
      refine lv_istore (lv' := [(9, .int (-2 : Int32)), (0, .ref a_this), (1, .int x1), (2, .int x2), (3, .int x3), (4, .int x4), (5, .int x5), (6, .int x6), (7, .int x7), (8, .int x8)]) hx hb dX5_layAll_66 hl (by decide) rfl (fun ls hl => ?_)
      exact w_X5_layAll_68 C0 hK hk_8 hk_18 hk_44 ih 1000000 v_placements v_laid x1 x2 x3 x4 x5 x6 x7 x8 (-2 : Int32) hf _ _ hP hD hS ls (lv_sub hl [1, 2, 3, 4, 5, 6, 7, 8, 9, 0] rfl)
set_option maxHeartbeats 4000000 in
set_option maxRecDepth 100000 in
theorem w_X5_layAll_129 {p : Program} {l : Launch} {e : Env} {s : State} {m : MethodId} {args : Array Value} {below : List Frame} {meth : Method} {c : Code} {A : Nat → Prop} {dC : Nat → ClassId} {dI : Nat → Nat → Nat} {cB cI cJ cZ : ClassId} {a_this a_cube a_laid a_times a_bits a_colours a_takes a_choice a_isChosen a_column a_next a_barredAt a_ways a_own a_goes a_rowGoes a_mark a_count a_colour : Nat} {v_thrown : Int32} {v_columns : Int32} {v_needed : Int32} {v_rows : Int32} {v_cubes : Int32} {v_taken : Int32} {v_chosen : Int32} {v_nodes : Int32} {v_found : Int32} {v_isSpent : Int32} {v_told : Int32} {v_kept : Int32} {v_turns : Int32} {v_toldNodes : Int32} {v_cube : (Nat → Int32)} {out : Int32 × Int32 × (Nat → Int32)} (C0 : Cx RX5 cX5_layAll (some .boolean) 11 wsX5_layAll p s m args meth c A) (hK : va_K (dC, dI) vwCl (tysG cB cI cJ cZ) s) {k_8 : Int32 → (Nat → Int32) → Int32 → Int32 → Int32 → Int32 → Int32 → Option (Int32 × Int32 × (Nat → Int32))} (hk_8 : g_X5_layAll_8 p l e s m args below meth c A dC dI cB cI cJ cZ a_this a_cube a_laid a_times a_bits a_colours a_takes a_choice a_isChosen a_column a_next a_barredAt a_ways a_own a_goes a_rowGoes a_mark a_count a_colour v_thrown v_columns v_needed v_rows v_cubes v_taken v_chosen v_nodes v_found v_isSpent v_told v_kept v_turns v_toldNodes v_cube out k_8) {k_18 : Int32 → (Nat → Int32) → Int32 → Int32 → Int32 → Int32 → Int32 → Int32 → Option (Int32 × Int32 × (Nat → Int32))} (hk_18 : g_X5_layAll_18 p l e s m args below meth c A dC dI cB cI cJ cZ a_this a_cube a_laid a_times a_bits a_colours a_takes a_choice a_isChosen a_column a_next a_barredAt a_ways a_own a_goes a_rowGoes a_mark a_count a_colour v_thrown v_columns v_needed v_rows v_cubes v_taken v_chosen v_nodes v_found v_isSpent v_told v_kept v_turns v_toldNodes v_cube out k_18) : g_X5_layAll_129 p l e s m args below meth c A dC dI cB cI cJ cZ a_this a_cube a_laid a_times a_bits a_colours a_takes a_choice a_isChosen a_column a_next a_barredAt a_ways a_own a_goes a_rowGoes a_mark a_count a_colour v_thrown v_columns v_needed v_rows v_cubes v_taken v_chosen v_nodes v_found v_isSpent v_told v_kept v_turns v_toldNodes v_cube out (f_X5_layAll_129 v_cubes v_cube k_8 k_18) := by
  obtain ⟨hx, hb, hr, hml, hown, hts, hlocks, hA⟩ := id C0
  intro v_placements v_laid x1 x2 x3 x4 x5 x6 hf H locs hP hD hS ls hl
  replace hf : ((k_18 v_placements v_laid x1 x2 x3 x4 x5 (x6 + 1)) : Option (Int32 × Int32 × (Nat → Int32))) = some out := hf
  refine lv_iinc (v := (x6 + 1)) (lv' := [(6, .int (x6 + 1)), (0, .ref a_this), (1, .int x1), (2, .int x2), (3, .int x3), (4, .int x4), (5, .int x5)]) hx hb dX5_layAll_129 hl (k := 6) rfl rfl (by decide) rfl (fun ls hl => ?_)
  refine lv_goto (tgt := 18) hx hb dX5_layAll_132 (by decide) ?_
  exact hk_18 v_placements v_laid x1 x2 x3 x4 x5 (x6 + 1) hf _ _ hP hD hS ls (lv_sub hl [1, 2, 3, 4, 5, 6, 0] rfl)
set_option maxHeartbeats 4000000 in
set_option maxRecDepth 100000 in
theorem w_X5_layAll_44 {p : Program} {l : Launch} {e : Env} {s : State} {m : MethodId} {args : Array Value} {below : List Frame} {meth : Method} {c : Code} {A : Nat → Prop} {dC : Nat → ClassId} {dI : Nat → Nat → Nat} {cB cI cJ cZ : ClassId} {a_this a_cube a_laid a_times a_bits a_colours a_takes a_choice a_isChosen a_column a_next a_barredAt a_ways a_own a_goes a_rowGoes a_mark a_count a_colour : Nat} {v_thrown : Int32} {v_columns : Int32} {v_needed : Int32} {v_rows : Int32} {v_cubes : Int32} {v_taken : Int32} {v_chosen : Int32} {v_nodes : Int32} {v_found : Int32} {v_isSpent : Int32} {v_told : Int32} {v_kept : Int32} {v_turns : Int32} {v_toldNodes : Int32} {v_cube : (Nat → Int32)} {out : Int32 × Int32 × (Nat → Int32)} (C0 : Cx RX5 cX5_layAll (some .boolean) 11 wsX5_layAll p s m args meth c A) (hK : va_K (dC, dI) vwCl (tysG cB cI cJ cZ) s) {k_8 : Int32 → (Nat → Int32) → Int32 → Int32 → Int32 → Int32 → Int32 → Option (Int32 × Int32 × (Nat → Int32))} (hk_8 : g_X5_layAll_8 p l e s m args below meth c A dC dI cB cI cJ cZ a_this a_cube a_laid a_times a_bits a_colours a_takes a_choice a_isChosen a_column a_next a_barredAt a_ways a_own a_goes a_rowGoes a_mark a_count a_colour v_thrown v_columns v_needed v_rows v_cubes v_taken v_chosen v_nodes v_found v_isSpent v_told v_kept v_turns v_toldNodes v_cube out k_8) {k_18 : Int32 → (Nat → Int32) → Int32 → Int32 → Int32 → Int32 → Int32 → Int32 → Option (Int32 × Int32 × (Nat → Int32))} (hk_18 : g_X5_layAll_18 p l e s m args below meth c A dC dI cB cI cJ cZ a_this a_cube a_laid a_times a_bits a_colours a_takes a_choice a_isChosen a_column a_next a_barredAt a_ways a_own a_goes a_rowGoes a_mark a_count a_colour v_thrown v_columns v_needed v_rows v_cubes v_taken v_chosen v_nodes v_found v_isSpent v_told v_kept v_turns v_toldNodes v_cube out k_18) : ∀ n : Nat, g_X5_layAll_44 p l e s m args below meth c A dC dI cB cI cJ cZ a_this a_cube a_laid a_times a_bits a_colours a_takes a_choice a_isChosen a_column a_next a_barredAt a_ways a_own a_goes a_rowGoes a_mark a_count a_colour v_thrown v_columns v_needed v_rows v_cubes v_taken v_chosen v_nodes v_found v_isSpent v_told v_kept v_turns v_toldNodes v_cube out (f_X5_layAll_44 v_cubes v_cube k_8 k_18 n) := by
  obtain ⟨hx, hb, hr, hml, hown, hts, hlocks, hA⟩ := id C0
  intro n
  induction n with
  | zero =>
    intro v_placements v_laid x1 x2 x3 x4 x5 x6 x7 hf H locs hP hD hS ls hl
    exact nomatch (show (none : Option (Int32 × Int32 × (Nat → Int32))) = some out from hf)
  | succ n ih =>
    intro v_placements v_laid x1 x2 x3 x4 x5 x6 x7 hf H locs hP hD hS ls hl
    replace hf : ((if (x3 + (1 : Int32)) < x7 then
  (f_X5_layAll_129 v_cubes v_cube k_8 k_18 v_placements v_laid x1 x2 x3 x4 x5 x6)
  else
  (f_X5_layAll_56 v_cubes v_cube k_8 k_18 (f_X5_layAll_44 v_cubes v_cube k_8 k_18 n) 1000000 v_placements v_laid x1 x2 x3 x4 x5 x6 x7 (-2 : Int32))) : Option (Int32 × Int32 × (Nat → Int32))) = some out := hf
    refine lv_iload hx hb dX5_layAll_44 (lv_at hl 7 rfl) ?_
    refine lv_iload_n hx hb dX5_layAll_46 rfl (lv_at hl 3 rfl) ?_
    refine lv_iconst (v := 1) hx hb dX5_layAll_47 (by decide) ?_
    refine lv_iadd hx hb dX5_layAll_48 ?_
    refine lv_icmp_gt (tgt := 129) hx hb dX5_layAll_49 (by decide) (fun c_7 => ?_) (fun c_7 => ?_)
    · replace hf := (if_pos c_7).symm.trans hf
      exact w_X5_layAll_129 C0 hK hk_8 hk_18 v_placements v_laid x1 x2 x3 x4 x5 x6 hf _ _ hP hD hS ls (lv_sub hl [0, 1, 2, 3, 4, 5, 6] rfl)
    · replace hf := (if_neg c_7).symm.trans hf
      refine lv_bipush (v := -2) hx hb dX5_layAll_52 (by decide) ?_
      refine lv_istore (lv' := [(8, .int (-2 : Int32)), (0, .ref a_this), (1, .int x1), (2, .int x2), (3, .int x3), (4, .int x4), (5, .int x5), (6, .int x6), (7, .int x7)]) hx hb dX5_layAll_54 hl (by decide) rfl (fun ls hl => ?_)
      exact w_X5_layAll_56 C0 hK hk_8 hk_18 ih 1000000 v_placements v_laid x1 x2 x3 x4 x5 x6 x7 (-2 : Int32) hf _ _ hP hD hS ls (lv_sub hl [1, 2, 3, 4, 5, 6, 7, 8, 0] rfl)
set_option maxHeartbeats 4000000 in
set_option maxRecDepth 100000 in
theorem w_X5_layAll_18 {p : Program} {l : Launch} {e : Env} {s : State} {m : MethodId} {args : Array Value} {below : List Frame} {meth : Method} {c : Code} {A : Nat → Prop} {dC : Nat → ClassId} {dI : Nat → Nat → Nat} {cB cI cJ cZ : ClassId} {a_this a_cube a_laid a_times a_bits a_colours a_takes a_choice a_isChosen a_column a_next a_barredAt a_ways a_own a_goes a_rowGoes a_mark a_count a_colour : Nat} {v_thrown : Int32} {v_columns : Int32} {v_needed : Int32} {v_rows : Int32} {v_cubes : Int32} {v_taken : Int32} {v_chosen : Int32} {v_nodes : Int32} {v_found : Int32} {v_isSpent : Int32} {v_told : Int32} {v_kept : Int32} {v_turns : Int32} {v_toldNodes : Int32} {v_cube : (Nat → Int32)} {out : Int32 × Int32 × (Nat → Int32)} (C0 : Cx RX5 cX5_layAll (some .boolean) 11 wsX5_layAll p s m args meth c A) (hK : va_K (dC, dI) vwCl (tysG cB cI cJ cZ) s) {k_8 : Int32 → (Nat → Int32) → Int32 → Int32 → Int32 → Int32 → Int32 → Option (Int32 × Int32 × (Nat → Int32))} (hk_8 : g_X5_layAll_8 p l e s m args below meth c A dC dI cB cI cJ cZ a_this a_cube a_laid a_times a_bits a_colours a_takes a_choice a_isChosen a_column a_next a_barredAt a_ways a_own a_goes a_rowGoes a_mark a_count a_colour v_thrown v_columns v_needed v_rows v_cubes v_taken v_chosen v_nodes v_found v_isSpent v_told v_kept v_turns v_toldNodes v_cube out k_8) : ∀ n : Nat, g_X5_layAll_18 p l e s m args below meth c A dC dI cB cI cJ cZ a_this a_cube a_laid a_times a_bits a_colours a_takes a_choice a_isChosen a_column a_next a_barredAt a_ways a_own a_goes a_rowGoes a_mark a_count a_colour v_thrown v_columns v_needed v_rows v_cubes v_taken v_chosen v_nodes v_found v_isSpent v_told v_kept v_turns v_toldNodes v_cube out (f_X5_layAll_18 v_cubes v_cube k_8 n) := by
  obtain ⟨hx, hb, hr, hml, hown, hts, hlocks, hA⟩ := id C0
  intro n
  induction n with
  | zero =>
    intro v_placements v_laid x1 x2 x3 x4 x5 x6 hf H locs hP hD hS ls hl
    exact nomatch (show (none : Option (Int32 × Int32 × (Nat → Int32))) = some out from hf)
  | succ n ih =>
    intro v_placements v_laid x1 x2 x3 x4 x5 x6 hf H locs hP hD hS ls hl
    replace hf : ((if (6 : Int32) ≤ x6 then
  (k_8 v_placements v_laid x1 x2 x3 x4 (x5 + 1))
  else
  ((f_X5_isDue x5 x6 x4).bind (fun o_9 =>
  if o_9.1 = 0 then
  (f_X5_layAll_129 v_cubes v_cube k_8 (f_X5_layAll_18 v_cubes v_cube k_8 n) v_placements v_laid x1 x2 x3 x4 x5 x6)
  else
  (f_X5_layAll_44 v_cubes v_cube k_8 (f_X5_layAll_18 v_cubes v_cube k_8 n) 1000000 v_placements v_laid x1 x2 x3 x4 x5 x6 (-2 : Int32))))) : Option (Int32 × Int32 × (Nat → Int32))) = some out := hf
    refine lv_iload hx hb dX5_layAll_18 (lv_at hl 6 rfl) ?_
    refine lv_bipush (v := 6) hx hb dX5_layAll_20 (by decide) ?_
    refine lv_icmp_ge (tgt := 135) hx hb dX5_layAll_22 (by decide) (fun c_8 => ?_) (fun c_8 => ?_)
    · replace hf := (if_pos c_8).symm.trans hf
      refine lv_iinc (v := (x5 + 1)) (lv' := [(5, .int (x5 + 1)), (0, .ref a_this), (1, .int x1), (2, .int x2), (3, .int x3), (4, .int x4), (6, .int x6)]) hx hb dX5_layAll_135 hl (k := 5) rfl rfl (by decide) rfl (fun ls hl => ?_)
      refine lv_goto (tgt := 8) hx hb dX5_layAll_138 (by decide) ?_
      exact hk_8 v_placements v_laid x1 x2 x3 x4 (x5 + 1) hf _ _ hP hD hS ls (lv_sub hl [1, 2, 3, 4, 5, 0] rfl)
    · replace hf := (if_neg c_8).symm.trans hf
      refine lv_iload hx hb dX5_layAll_25 (lv_at hl 5 rfl) ?_
      refine lv_iload hx hb dX5_layAll_27 (lv_at hl 6 rfl) ?_
      refine lv_iload hx hb dX5_layAll_29 (lv_at hl 4 rfl) ?_
      obtain ⟨o_9, ho_9, hf⟩ := gd_bd hf
      have hPc := hP.sub (ws' := ws_X5_isDue cB cI cJ cZ  ) [] rfl
      have hDc := hD.sub (ws' := ws_X5_isDue cB cI cJ cZ  ) [] (by decide) rfl
      have hFc := va_free (wc := ws_X5_isDue cB cI cJ cZ  ) hD hS hA [] rfl
      refine va_calli (va_runS (As := [.int x5, .int x6, .int x4]) (rest := []) ⟨hx, hb, hml, hown, hts⟩ (c_X5_isDue l dC dI cB cI cJ cZ H.size x5 x6 x4 o_9 ho_9) (va_cwS 3 hts gX5_layAll_X5_isDue rfl rfl rfl nd_X5_isDue ⟨Nat.le_of_ble_eq_true rfl, Nat.le_of_ble_eq_true rfl⟩) ⟨fun a U g mk q => by obtain ⟨q0, q1, qP, qK, qD⟩ := q; exact ⟨q0, q1, qP, va_K.moved (u := U) (U := U.calling g mk a) (Vm.Alike.refl U.vm) qK, qD⟩, fun U hU hW => ⟨rfl, by rw [hU], by rw [hU]; exact hPc, va_K.moved hW.alike hK, hDc.weaken (fun _ _ _ _ => trivial)⟩⟩ rfl rfl hl.1 rfl (lv_room (Nat.le_of_ble_eq_true rfl)) dX5_layAll_31 ⟨Nat.le_of_ble_eq_true rfl, Nat.le_of_ble_eq_true rfl⟩) hS (fun q _ h => hFc q h) hFc (fun r_9 u_9 t H1 locs ht hvm hw hB hz1 hk1 hS => ?_)
      obtain ⟨rfl, rfl⟩ := hw
      obtain ⟨hP1, hK1, hD1⟩ := hB
      rw [ht] at hP1
      obtain ⟨hP, hD⟩ := va_join (wr := [(a_this, .inr (6, [.int v_thrown, .int v_columns, .int v_needed, .ref a_times, .int v_rows, .ref a_bits, .ref a_colours, .int v_cubes, .ref a_cube, .ref a_laid, .int v_placements, .int v_taken, .ref a_takes, .int v_chosen, .ref a_choice, .ref a_isChosen, .ref a_column, .ref a_next, .ref a_barredAt, .int v_nodes, .int v_found, .int v_isSpent, .int v_told, .int v_kept, .ref a_ways, .ref a_own, .int v_turns, .ref a_goes, .ref a_rowGoes, .ref a_mark, .ref a_count, .ref a_colour, .int v_toldNodes])), (a_cube, .inl (cI, 7, .inl v_cube)), (a_laid, .inl (cI, 60, .inl v_laid))]) (w1 := ws_X5_isDue cB cI cJ cZ  ) hP hD [] [0, 1, 2] rfl rfl (by decide) (by decide) hk1 hFc hP1 hD1
      generalize H1 = H at hP hS ⊢
      have hP : va_P (dC, dI) vwCl (ws_X5_layAll cB cI cJ cZ a_this a_cube a_laid a_times a_bits a_colours a_takes a_choice a_isChosen a_column a_next a_barredAt a_ways a_own a_goes a_rowGoes a_mark a_count a_colour v_thrown v_columns v_needed v_rows v_cubes v_placements v_taken v_chosen v_nodes v_found v_isSpent v_told v_kept v_turns v_toldNodes v_cube v_laid) H := hP.sub [0, 1, 2] rfl
      have hD : va_D A (ws_X5_layAll cB cI cJ cZ a_this a_cube a_laid a_times a_bits a_colours a_takes a_choice a_isChosen a_column a_next a_barredAt a_ways a_own a_goes a_rowGoes a_mark a_count a_colour v_thrown v_columns v_needed v_rows v_cubes v_placements v_taken v_chosen v_nodes v_found v_isSpent v_told v_kept v_turns v_toldNodes v_cube v_laid) := hD.sub [0, 1, 2] (by decide) rfl
      refine lv_if_ne (tgt := 40) hx hb dX5_layAll_34 (by decide) (fun c_10 => ?_) (fun c_10 => ?_)
      · replace hf := (if_neg c_10).symm.trans hf
        refine lv_bipush (v := -2) hx hb dX5_layAll_40 (by decide) ?_
        refine lv_istore (lv' := [(7, .int (-2 : Int32)), (0, .ref a_this), (1, .int x1), (2, .int x2), (3, .int x3), (4, .int x4), (5, .int x5), (6, .int x6)]) hx hb dX5_layAll_42 hl (by decide) rfl (fun ls hl => ?_)
        exact w_X5_layAll_44 C0 hK hk_8 ih 1000000 v_placements v_laid x1 x2 x3 x4 x5 x6 (-2 : Int32) hf _ _ hP hD hS ls (lv_sub hl [1, 2, 3, 4, 5, 6, 7, 0] rfl)
      · replace hf := (if_pos c_10).symm.trans hf
        refine lv_goto (tgt := 129) hx hb dX5_layAll_37 (by decide) ?_
        exact w_X5_layAll_129 C0 hK hk_8 ih v_placements v_laid x1 x2 x3 x4 x5 x6 hf _ _ hP hD hS ls (lv_sub hl [0, 1, 2, 3, 4, 5, 6] rfl)
set_option maxHeartbeats 4000000 in
set_option maxRecDepth 100000 in
theorem w_X5_layAll_8 {p : Program} {l : Launch} {e : Env} {s : State} {m : MethodId} {args : Array Value} {below : List Frame} {meth : Method} {c : Code} {A : Nat → Prop} {dC : Nat → ClassId} {dI : Nat → Nat → Nat} {cB cI cJ cZ : ClassId} {a_this a_cube a_laid a_times a_bits a_colours a_takes a_choice a_isChosen a_column a_next a_barredAt a_ways a_own a_goes a_rowGoes a_mark a_count a_colour : Nat} {v_thrown : Int32} {v_columns : Int32} {v_needed : Int32} {v_rows : Int32} {v_cubes : Int32} {v_taken : Int32} {v_chosen : Int32} {v_nodes : Int32} {v_found : Int32} {v_isSpent : Int32} {v_told : Int32} {v_kept : Int32} {v_turns : Int32} {v_toldNodes : Int32} {v_cube : (Nat → Int32)} {out : Int32 × Int32 × (Nat → Int32)} (C0 : Cx RX5 cX5_layAll (some .boolean) 11 wsX5_layAll p s m args meth c A) (hK : va_K (dC, dI) vwCl (tysG cB cI cJ cZ) s)  : ∀ n : Nat, g_X5_layAll_8 p l e s m args below meth c A dC dI cB cI cJ cZ a_this a_cube a_laid a_times a_bits a_colours a_takes a_choice a_isChosen a_column a_next a_barredAt a_ways a_own a_goes a_rowGoes a_mark a_count a_colour v_thrown v_columns v_needed v_rows v_cubes v_taken v_chosen v_nodes v_found v_isSpent v_told v_kept v_turns v_toldNodes v_cube out (f_X5_layAll_8 v_cubes v_cube  n) := by
  obtain ⟨hx, hb, hr, hml, hown, hts, hlocks, hA⟩ := id C0
  intro n
  induction n with
  | zero =>
    intro v_placements v_laid x1 x2 x3 x4 x5 hf H locs hP hD hS ls hl
    exact nomatch (show (none : Option (Int32 × Int32 × (Nat → Int32))) = some out from hf)
  | succ n ih =>
    intro v_placements v_laid x1 x2 x3 x4 x5 hf H locs hP hD hS ls hl
    replace hf : ((if (6 : Int32) ≤ x5 then
  (some (((1 : Int32), (v_placements, v_laid))))
  else
  (f_X5_layAll_18 v_cubes v_cube (f_X5_layAll_8 v_cubes v_cube n) 1000000 v_placements v_laid x1 x2 x3 x4 x5 (0 : Int32))) : Option (Int32 × Int32 × (Nat → Int32))) = some out := hf
    refine lv_iload hx hb dX5_layAll_8 (lv_at hl 5 rfl) ?_
    refine lv_bipush (v := 6) hx hb dX5_layAll_10 (by decide) ?_
    refine lv_icmp_ge (tgt := 141) hx hb dX5_layAll_12 (by decide) (fun c_11 => ?_) (fun c_11 => ?_)
    · replace hf := (if_pos c_11).symm.trans hf
      refine lv_iconst (v := 1) hx hb dX5_layAll_141 (by decide) ?_
      have h9 := Option.some.inj hf
      have h8 := congrArg Prod.fst h9
      have h7 := congrArg Prod.snd h9
      exact W.zret (v := (1 : Int32)) hx hb hr rfl (fun t ht hW => ⟨⟨(1 : Int32), (v_placements, v_laid), rfl, ⟨h8, h7⟩, by rw [ht]; exact hP, va_K.moved hW.alike hK, hD⟩, hS.F ht⟩) hS.2.2 dX5_layAll_142
    · replace hf := (if_neg c_11).symm.trans hf
      refine lv_iconst (v := 0) hx hb dX5_layAll_15 (by decide) ?_
      refine lv_istore (lv' := [(6, .int (0 : Int32)), (0, .ref a_this), (1, .int x1), (2, .int x2), (3, .int x3), (4, .int x4), (5, .int x5)]) hx hb dX5_layAll_16 hl (by decide) rfl (fun ls hl => ?_)
      exact w_X5_layAll_18 C0 hK ih 1000000 v_placements v_laid x1 x2 x3 x4 x5 (0 : Int32) hf _ _ hP hD hS ls (lv_sub hl [1, 2, 3, 4, 5, 6, 0] rfl)
set_option maxHeartbeats 4000000 in
set_option maxRecDepth 100000 in
theorem w_X5_layAll_0 {p : Program} {l : Launch} {e : Env} {s : State} {m : MethodId} {args : Array Value} {below : List Frame} {meth : Method} {c : Code} {A : Nat → Prop} {dC : Nat → ClassId} {dI : Nat → Nat → Nat} {cB cI cJ cZ : ClassId} {a_this a_cube a_laid a_times a_bits a_colours a_takes a_choice a_isChosen a_column a_next a_barredAt a_ways a_own a_goes a_rowGoes a_mark a_count a_colour : Nat} {v_thrown : Int32} {v_columns : Int32} {v_needed : Int32} {v_rows : Int32} {v_cubes : Int32} {v_taken : Int32} {v_chosen : Int32} {v_nodes : Int32} {v_found : Int32} {v_isSpent : Int32} {v_told : Int32} {v_kept : Int32} {v_turns : Int32} {v_toldNodes : Int32} {v_cube : (Nat → Int32)} {out : Int32 × Int32 × (Nat → Int32)} (C0 : Cx RX5 cX5_layAll (some .boolean) 11 wsX5_layAll p s m args meth c A) (hK : va_K (dC, dI) vwCl (tysG cB cI cJ cZ) s)  : g_X5_layAll_0 p l e s m args below meth c A dC dI cB cI cJ cZ a_this a_cube a_laid a_times a_bits a_colours a_takes a_choice a_isChosen a_column a_next a_barredAt a_ways a_own a_goes a_rowGoes a_mark a_count a_colour v_thrown v_columns v_needed v_rows v_cubes v_taken v_chosen v_nodes v_found v_isSpent v_told v_kept v_turns v_toldNodes v_cube out (f_X5_layAll v_cubes v_cube ) := by
  obtain ⟨hx, hb, hr, hml, hown, hts, hlocks, hA⟩ := id C0
  intro v_placements v_laid x1 x2 x3 x4 hf H locs hP hD hS ls hl
  replace hf : ((f_X5_layAll_8 v_cubes v_cube 1000000 (0 : Int32) v_laid x1 x2 x3 x4 (0 : Int32)) : Option (Int32 × Int32 × (Nat → Int32))) = some out := hf
  refine lv_aload_n hx hb dX5_layAll_0 rfl (lv_at hl 0 rfl) ?_
  refine lv_iconst (v := 0) hx hb dX5_layAll_1 (by decide) ?_
  refine va_put (D := (dC, dI)) (ci := 6) (v := .int (0 : Int32)) (ty := .int) (C := RX5) (T := TX5) (N := 33) hx hb hts in_X5_layAll_X5 tyX5 tyX5_ok nmX5 hown hK hP hD hS 0 rfl rfl 10 (by decide) (hts (.fieldLink RX5 115 "LinkedCoversModel" "placements" "I") lk_X5_layAll_f115) (fun _ h9 => h9) rfl (by decide +kernel) rfl rfl (Nat.le_of_ble_eq_true rfl) dX5_layAll_2 (fun H locs hP hD hS => ?_)
  have hP : va_P (dC, dI) vwCl (ws_X5_layAll cB cI cJ cZ a_this a_cube a_laid a_times a_bits a_colours a_takes a_choice a_isChosen a_column a_next a_barredAt a_ways a_own a_goes a_rowGoes a_mark a_count a_colour v_thrown v_columns v_needed v_rows v_cubes (0 : Int32) v_taken v_chosen v_nodes v_found v_isSpent v_told v_kept v_turns v_toldNodes v_cube v_laid) H := hP
  have hD : va_D A (ws_X5_layAll cB cI cJ cZ a_this a_cube a_laid a_times a_bits a_colours a_takes a_choice a_isChosen a_column a_next a_barredAt a_ways a_own a_goes a_rowGoes a_mark a_count a_colour v_thrown v_columns v_needed v_rows v_cubes (0 : Int32) v_taken v_chosen v_nodes v_found v_isSpent v_told v_kept v_turns v_toldNodes v_cube v_laid) := hD
  refine lv_iconst (v := 0) hx hb dX5_layAll_5 (by decide) ?_
  refine lv_istore (lv' := [(5, .int (0 : Int32)), (0, .ref a_this), (1, .int x1), (2, .int x2), (3, .int x3), (4, .int x4)]) hx hb dX5_layAll_6 hl (by decide) rfl (fun ls hl => ?_)
  exact w_X5_layAll_8 C0 hK 1000000 (0 : Int32) v_laid x1 x2 x3 x4 (0 : Int32) hf _ _ hP hD hS ls (lv_sub hl [1, 2, 3, 4, 5, 0] rfl)
theorem nd_X5_layAll : yX5_layAll.cls ≠ "java/lang/invoke/MethodHandle" ∧ yX5_layAll.cls ≠ "java/lang/invoke/VarHandle" ∧ (parseMethodDescriptor yX5_layAll.desc).map (fun d => d.parameters.length) = some 4 := by decide +kernel
set_option maxHeartbeats 4000000 in
set_option maxRecDepth 100000 in
theorem c_X5_layAll (l : Launch) (dC : Nat → ClassId) (dI : Nat → Nat → Nat) (cB cI cJ cZ : ClassId) (a_this a_cube a_laid a_times a_bits a_colours a_takes a_choice a_isChosen a_column a_next a_barredAt a_ways a_own a_goes a_rowGoes a_mark a_count a_colour : Nat) (sz : Nat) (v_thrown : Int32) (v_columns : Int32) (v_needed : Int32) (v_rows : Int32) (v_cubes : Int32) (v_placements : Int32) (v_taken : Int32) (v_chosen : Int32) (v_nodes : Int32) (v_found : Int32) (v_isSpent : Int32) (v_told : Int32) (v_kept : Int32) (v_turns : Int32) (v_toldNodes : Int32) (v_cube : (Nat → Int32)) (v_laid : (Nat → Int32)) (x1 : Int32) (x2 : Int32) (x3 : Int32) (x4 : Int32) (out : Int32 × Int32 × (Nat → Int32)) (hf : f_X5_layAll v_cubes v_cube v_placements v_laid x1 x2 x3 x4 = some out) : Met l yX5_layAll wsX5_layAll rm_X5_layAll (va_Pc [.ref a_this, .int x1, .int x2, .int x3, .int x4] (fun U => U.heap.size = sz ∧ va_P (dC, dI) vwCl (ws_X5_layAll cB cI cJ cZ a_this a_cube a_laid a_times a_bits a_colours a_takes a_choice a_isChosen a_column a_next a_barredAt a_ways a_own a_goes a_rowGoes a_mark a_count a_colour v_thrown v_columns v_needed v_rows v_cubes v_placements v_taken v_chosen v_nodes v_found v_isSpent v_told v_kept v_turns v_toldNodes v_cube v_laid) U.heap ∧ va_K (dC, dI) vwCl (tysG cB cI cJ cZ) U ∧ va_D (fun _ => True) (ws_X5_layAll cB cI cJ cZ a_this a_cube a_laid a_times a_bits a_colours a_takes a_choice a_isChosen a_column a_next a_barredAt a_ways a_own a_goes a_rowGoes a_mark a_count a_colour v_thrown v_columns v_needed v_rows v_cubes v_placements v_taken v_chosen v_nodes v_found v_isSpent v_told v_kept v_turns v_toldNodes v_cube v_laid))) (qc_X5_layAll (va_A (ws_X5_layAll cB cI cJ cZ a_this a_cube a_laid a_times a_bits a_colours a_takes a_choice a_isChosen a_column a_next a_barredAt a_ways a_own a_goes a_rowGoes a_mark a_count a_colour v_thrown v_columns v_needed v_rows v_cubes v_placements v_taken v_chosen v_nodes v_found v_isSpent v_told v_kept v_turns v_toldNodes v_cube v_laid) sz) dC dI cB cI cJ cZ a_this a_cube a_laid a_times a_bits a_colours a_takes a_choice a_isChosen a_column a_next a_barredAt a_ways a_own a_goes a_rowGoes a_mark a_count a_colour v_thrown v_columns v_needed v_rows v_cubes v_taken v_chosen v_nodes v_found v_isSpent v_told v_kept v_turns v_toldNodes v_cube out) 0 0 (va_A (ws_X5_layAll cB cI cJ cZ a_this a_cube a_laid a_times a_bits a_colours a_takes a_choice a_isChosen a_column a_next a_barredAt a_ways a_own a_goes a_rowGoes a_mark a_count a_colour v_thrown v_columns v_needed v_rows v_cubes v_placements v_taken v_chosen v_nodes v_found v_isSpent v_told v_kept v_turns v_toldNodes v_cube v_laid) sz) := by
  refine Met.ofW (cc := cX5_layAll) (maxL := 11) (ret := (some .boolean)) (by decide) rfl ?_
  intro p e s m args below meth c s₁ B hml hv
  obtain ⟨rfl, hsz, hP, hK, hD0⟩ := hv
  subst hsz
  have hD := hD0.self (sz := s.heap.size)
  generalize hAe : va_A (ws_X5_layAll cB cI cJ cZ a_this a_cube a_laid a_times a_bits a_colours a_takes a_choice a_isChosen a_column a_next a_barredAt a_ways a_own a_goes a_rowGoes a_mark a_count a_colour v_thrown v_columns v_needed v_rows v_cubes v_placements v_taken v_chosen v_nodes v_found v_isSpent v_told v_kept v_turns v_toldNodes v_cube v_laid) s.heap.size = A at hD ⊢
  have hA : ∀ q : Nat, s.heap.size ≤ q → A q := fun q h => by rw [← hAe]; exact Or.inr h
  have hl := lv_entry ([.ref a_this, .int x1, .int x2, .int x3, .int x4]) (n := 11) (Nat.le_of_ble_eq_true rfl)
  rw [lg_entry_eq]
  generalize (lg_sl ([.ref a_this, .int x1, .int x2, .int x3, .int x4]) ++ List.replicate (11 - (lg_sl ([.ref a_this, .int x1, .int x2, .int x3, .int x4])).length) Slot.unset).toArray = ls at hl ⊢
  have hl : lv_has ls 11 [(0, .ref a_this), (1, .int x1), (2, .int x2), (3, .int x3), (4, .int x4)] := hl
  exact w_X5_layAll_0 ⟨B.exec, B.bytes, B.returns, hml, findClass_of_methodNamed B.named, atoms_spec (ws := wsX5_layAll) B.pre, B.notSynchronized, hA⟩ hK v_placements v_laid x1 x2 x3 x4 hf _ _ hP hD va_S.rf ls (lv_sub hl [0, 1, 2, 3, 4] rfl)
-- X5.lay(IIIII)I: 118 instructions
theorem in_X5_lay_X5 : ∀ w ∈ wsX50, w ∈ wsX5_lay := by decide +kernel
abbrev ws_X5_lay (cB cI cJ cZ : ClassId) (a_this a_bits a_colours a_cube a_laid a_times a_takes a_choice a_isChosen a_column a_next a_barredAt a_ways a_own a_goes a_rowGoes a_mark a_count a_colour : Nat) (v_thrown : Int32) (v_columns : Int32) (v_needed : Int32) (v_rows : Int32) (v_cubes : Int32) (v_placements : Int32) (v_taken : Int32) (v_chosen : Int32) (v_nodes : Int32) (v_found : Int32) (v_isSpent : Int32) (v_told : Int32) (v_kept : Int32) (v_turns : Int32) (v_toldNodes : Int32) (v_bits : (Nat → Int32)) (v_colours : (Nat → Int32)) (v_cube : (Nat → Int32)) (v_laid : (Nat → Int32)) : va_W := [(a_this, .inr (6, [.int v_thrown, .int v_columns, .int v_needed, .ref a_times, .int v_rows, .ref a_bits, .ref a_colours, .int v_cubes, .ref a_cube, .ref a_laid, .int v_placements, .int v_taken, .ref a_takes, .int v_chosen, .ref a_choice, .ref a_isChosen, .ref a_column, .ref a_next, .ref a_barredAt, .int v_nodes, .int v_found, .int v_isSpent, .int v_told, .int v_kept, .ref a_ways, .ref a_own, .int v_turns, .ref a_goes, .ref a_rowGoes, .ref a_mark, .ref a_count, .ref a_colour, .int v_toldNodes])), (a_bits, .inl (cI, 60, .inl v_bits)), (a_colours, .inl (cI, 1440, .inl v_colours)), (a_cube, .inl (cI, 7, .inl v_cube)), (a_laid, .inl (cI, 60, .inl v_laid))]
abbrev rm_X5_lay : Room := { frames := 3, cells := 0, slots := 0, locals := 91 }
theorem lk_X5_lay_f115 : Cond.fieldLink RX5 115 "LinkedCoversModel" "placements" "I" ∈ wsX5_lay := by decide +kernel
theorem lk_X5_lay_f104 : Cond.fieldLink RX5 104 "LinkedCoversModel" "cubes" "I" ∈ wsX5_lay := by decide +kernel
theorem lk_X5_lay_f22 : Cond.fieldLink RX5 22 "LinkedCoversModel" "laid" "[I" ∈ wsX5_lay := by decide +kernel
theorem lk_X5_lay_f76 : Cond.fieldLink RX5 76 "LinkedCoversModel" "rows" "I" ∈ wsX5_lay := by decide +kernel
theorem lk_X5_lay_f66 : Cond.fieldLink RX5 66 "LinkedCoversModel" "columns" "I" ∈ wsX5_lay := by decide +kernel
theorem lk_X5_lay_f87 : Cond.fieldLink RX5 87 "LinkedCoversModel" "taken" "I" ∈ wsX5_lay := by decide +kernel
def f_X5_lay_100 (v_columns : Int32) (v_taken : Int32) (v_cube : (Nat → Int32))  (v_thrown : Int32) (v_rows : Int32) (v_cubes : Int32) (v_placements : Int32) (v_kept : Int32) (v_bits : (Nat → Int32)) (v_colours : (Nat → Int32)) (v_laid : (Nat → Int32)) : Option (Int32 × Int32 × Int32 × Int32 × Int32 × Int32 × (Nat → Int32) × (Nat → Int32) × (Nat → Int32)) :=
  some (((-1 : Int32), (v_thrown, v_rows, v_cubes, v_placements, v_kept, v_bits, v_colours, v_laid)))
def f_X5_lay_158 (v_columns : Int32) (v_taken : Int32) (v_cube : (Nat → Int32))  (v_thrown : Int32) (v_rows : Int32) (v_cubes : Int32) (v_placements : Int32) (v_kept : Int32) (v_bits : (Nat → Int32)) (v_colours : (Nat → Int32)) (v_laid : (Nat → Int32)) : Option (Int32 × Int32 × Int32 × Int32 × Int32 × Int32 × (Nat → Int32) × (Nat → Int32) × (Nat → Int32)) :=
  some (((-1 : Int32), (v_thrown, v_rows, v_cubes, v_placements, v_kept, v_bits, v_colours, v_laid)))
def f_X5_lay_193 (v_columns : Int32) (v_taken : Int32) (v_cube : (Nat → Int32)) (k_163 : Int32 → Int32 → Int32 → Int32 → Int32 → (Nat → Int32) → (Nat → Int32) → (Nat → Int32) → Int32 → Int32 → Option (Int32 × Int32 × Int32 × Int32 × Int32 × Int32 × (Nat → Int32) × (Nat → Int32) × (Nat → Int32))) (v_thrown : Int32) (v_rows : Int32) (v_cubes : Int32) (v_placements : Int32) (v_kept : Int32) (v_bits : (Nat → Int32)) (v_colours : (Nat → Int32)) (v_laid : (Nat → Int32)) (x5 : Int32) (x6 : Int32) (y0 : Int32) (y1 : Int32) : Option (Int32 × Int32 × Int32 × Int32 × Int32 × Int32 × (Nat → Int32) × (Nat → Int32) × (Nat → Int32)) :=
  (f_X5_addRow v_rows v_kept v_bits v_colours (y1 ||| y0)).bind (fun o_1 =>
  k_163 v_thrown o_1.2.1 v_cubes v_placements o_1.2.2.1 o_1.2.2.2.1 o_1.2.2.2.2 v_laid x5 (x6 + 1))
def f_X5_lay_163 (v_columns : Int32) (v_taken : Int32) (v_cube : (Nat → Int32))  : Nat → Int32 → Int32 → Int32 → Int32 → Int32 → (Nat → Int32) → (Nat → Int32) → (Nat → Int32) → Int32 → Int32 → Option (Int32 × Int32 × Int32 × Int32 × Int32 × Int32 × (Nat → Int32) × (Nat → Int32) × (Nat → Int32))
  | 0 => fun _ _ _ _ _ _ _ _ _ _ => none
  | n + 1 => fun v_thrown v_rows v_cubes v_placements v_kept v_bits v_colours v_laid x5 x6 => if v_placements ≤ x6 then
  (some ((v_placements, (v_thrown, v_rows, (0 : Int32), v_placements, v_kept, v_bits, v_colours, v_laid))))
  else
  (if (x6 < 0 ∨ 60 ≤ Int32.toNatClampNeg x6) then none else
  if x5 < 0 then
  (f_X5_lay_193 v_columns v_taken v_cube (f_X5_lay_163 v_columns v_taken v_cube n) v_thrown v_rows v_cubes v_placements v_kept v_bits v_colours v_laid x5 x6 (0 : Int32) (v_laid (Int32.toNatClampNeg x6)))
  else
  (f_X5_lay_193 v_columns v_taken v_cube (f_X5_lay_163 v_columns v_taken v_cube n) v_thrown v_rows v_cubes v_placements v_kept v_bits v_colours v_laid x5 x6 ((1 : Int32) <<< (x5 &&& 31)) (v_laid (Int32.toNatClampNeg x6))))
def f_X5_lay_124 (v_columns : Int32) (v_taken : Int32) (v_cube : (Nat → Int32))  (v_thrown : Int32) (v_rows : Int32) (v_cubes : Int32) (v_placements : Int32) (v_kept : Int32) (v_bits : (Nat → Int32)) (v_colours : (Nat → Int32)) (v_laid : (Nat → Int32)) (x1 : Int32) (x2 : Int32) (x3 : Int32) (x4 : Int32) (x5 : Int32) (y0 : Int32) (y1 : Int32) : Option (Int32 × Int32 × Int32 × Int32 × Int32 × Int32 × (Nat → Int32) × (Nat → Int32) × (Nat → Int32)) :=
  (f_X5_throwsIf v_thrown y1 y0).bind (fun o_5 =>
  if o_5.1 = 0 then
  ((f_X5_layAll v_cubes v_cube v_placements v_laid x1 x2 x3 x4).bind (fun o_7 =>
  if o_7.1 = 0 then
  (f_X5_lay_158 v_columns v_taken v_cube o_5.2 v_rows v_cubes o_7.2.1 v_kept v_bits v_colours o_7.2.2)
  else
  (if (v_rows + o_7.2.1) ≤ (60 : Int32) then
  (f_X5_lay_163 v_columns v_taken v_cube 1000000 o_5.2 v_rows v_cubes o_7.2.1 v_kept v_bits v_colours o_7.2.2 x5 (0 : Int32))
  else
  (f_X5_lay_158 v_columns v_taken v_cube o_5.2 v_rows v_cubes o_7.2.1 v_kept v_bits v_colours o_7.2.2))))
  else
  (some (((0 : Int32), (o_5.2, v_rows, v_cubes, v_placements, v_kept, v_bits, v_colours, v_laid)))))
def f_X5_lay_123 (v_columns : Int32) (v_taken : Int32) (v_cube : (Nat → Int32))  (v_thrown : Int32) (v_rows : Int32) (v_cubes : Int32) (v_placements : Int32) (v_kept : Int32) (v_bits : (Nat → Int32)) (v_colours : (Nat → Int32)) (v_laid : (Nat → Int32)) (x1 : Int32) (x2 : Int32) (x3 : Int32) (x4 : Int32) (x5 : Int32) (y0 : Int32) : Option (Int32 × Int32 × Int32 × Int32 × Int32 × Int32 × (Nat → Int32) × (Nat → Int32) × (Nat → Int32)) :=
  f_X5_lay_124 v_columns v_taken v_cube v_thrown v_rows v_cubes v_placements v_kept v_bits v_colours v_laid x1 x2 x3 x4 x5 (0 : Int32) y0
def f_X5_lay_22 (v_columns : Int32) (v_taken : Int32) (v_cube : (Nat → Int32))  (v_thrown : Int32) (v_rows : Int32) (v_cubes : Int32) (v_placements : Int32) (v_kept : Int32) (v_bits : (Nat → Int32)) (v_colours : (Nat → Int32)) (v_laid : (Nat → Int32)) (x1 : Int32) (x2 : Int32) (x3 : Int32) (x4 : Int32) (x5 : Int32) (y0 : Int32) (y1 : Int32) : Option (Int32 × Int32 × Int32 × Int32 × Int32 × Int32 × (Nat → Int32) × (Nat → Int32) × (Nat → Int32)) :=
  (f_X5_throwsIf v_thrown y1 y0).bind (fun o_10 =>
  if o_10.1 = 0 then
  (if x1 < (1 : Int32) then
  (f_X5_lay_100 v_columns v_taken v_cube o_10.2 v_rows v_cubes v_placements v_kept v_bits v_colours v_laid)
  else
  (if x2 < (1 : Int32) then
  (f_X5_lay_100 v_columns v_taken v_cube o_10.2 v_rows v_cubes v_placements v_kept v_bits v_colours v_laid)
  else
  (if x3 < (1 : Int32) then
  (f_X5_lay_100 v_columns v_taken v_cube o_10.2 v_rows v_cubes v_placements v_kept v_bits v_colours v_laid)
  else
  (if (24 : Int32) < x1 then
  (f_X5_lay_100 v_columns v_taken v_cube o_10.2 v_rows v_cubes v_placements v_kept v_bits v_colours v_laid)
  else
  (if (24 : Int32) < x2 then
  (f_X5_lay_100 v_columns v_taken v_cube o_10.2 v_rows v_cubes v_placements v_kept v_bits v_colours v_laid)
  else
  (if (24 : Int32) < x3 then
  (f_X5_lay_100 v_columns v_taken v_cube o_10.2 v_rows v_cubes v_placements v_kept v_bits v_colours v_laid)
  else
  (if v_columns < ((x1 * x2) * x3) then
  (f_X5_lay_100 v_columns v_taken v_cube o_10.2 v_rows v_cubes v_placements v_kept v_bits v_colours v_laid)
  else
  (if x4 < 0 then
  (f_X5_lay_100 v_columns v_taken v_cube o_10.2 v_rows v_cubes v_placements v_kept v_bits v_colours v_laid)
  else
  (if (3 : Int32) < x4 then
  (f_X5_lay_100 v_columns v_taken v_cube o_10.2 v_rows v_cubes v_placements v_kept v_bits v_colours v_laid)
  else
  (if v_cubes = 0 then
  (f_X5_lay_100 v_columns v_taken v_cube o_10.2 v_rows v_cubes v_placements v_kept v_bits v_colours v_laid)
  else
  (if v_taken ≤ 0 then
  (if x5 < 0 then
  (f_X5_lay_123 v_columns v_taken v_cube o_10.2 v_rows v_cubes v_placements v_kept v_bits v_colours v_laid x1 x2 x3 x4 x5 (2 : Int32))
  else
  (if ((x1 * x2) * x3) ≤ x5 then
  (f_X5_lay_123 v_columns v_taken v_cube o_10.2 v_rows v_cubes v_placements v_kept v_bits v_colours v_laid x1 x2 x3 x4 x5 (2 : Int32))
  else
  (f_X5_lay_124 v_columns v_taken v_cube o_10.2 v_rows v_cubes v_placements v_kept v_bits v_colours v_laid x1 x2 x3 x4 x5 (1 : Int32) (2 : Int32))))
  else
  (f_X5_lay_100 v_columns v_taken v_cube o_10.2 v_rows v_cubes v_placements v_kept v_bits v_colours v_laid))))))))))))
  else
  (some (((0 : Int32), (o_10.2, v_rows, v_cubes, v_placements, v_kept, v_bits, v_colours, v_laid)))))
def f_X5_lay_21 (v_columns : Int32) (v_taken : Int32) (v_cube : (Nat → Int32))  (v_thrown : Int32) (v_rows : Int32) (v_cubes : Int32) (v_placements : Int32) (v_kept : Int32) (v_bits : (Nat → Int32)) (v_colours : (Nat → Int32)) (v_laid : (Nat → Int32)) (x1 : Int32) (x2 : Int32) (x3 : Int32) (x4 : Int32) (x5 : Int32) (y0 : Int32) : Option (Int32 × Int32 × Int32 × Int32 × Int32 × Int32 × (Nat → Int32) × (Nat → Int32) × (Nat → Int32)) :=
  f_X5_lay_22 v_columns v_taken v_cube v_thrown v_rows v_cubes v_placements v_kept v_bits v_colours v_laid x1 x2 x3 x4 x5 (0 : Int32) y0
def f_X5_lay (v_columns : Int32) (v_taken : Int32) (v_cube : (Nat → Int32))  (v_thrown : Int32) (v_rows : Int32) (v_cubes : Int32) (v_placements : Int32) (v_kept : Int32) (v_bits : (Nat → Int32)) (v_colours : (Nat → Int32)) (v_laid : (Nat → Int32)) (x1 : Int32) (x2 : Int32) (x3 : Int32) (x4 : Int32) (x5 : Int32) : Option (Int32 × Int32 × Int32 × Int32 × Int32 × Int32 × (Nat → Int32) × (Nat → Int32) × (Nat → Int32)) :=
  if x5 = (-1 : Int32) then
  (f_X5_lay_21 v_columns v_taken v_cube v_thrown v_rows v_cubes v_placements v_kept v_bits v_colours v_laid x1 x2 x3 x4 x5 (1 : Int32))
  else
  ((f_X5_isColumn v_columns x5).bind (fun o_26 =>
  if o_26.1 = 0 then
  (f_X5_lay_22 v_columns v_taken v_cube v_thrown v_rows v_cubes v_placements v_kept v_bits v_colours v_laid x1 x2 x3 x4 x5 (1 : Int32) (1 : Int32))
  else
  (f_X5_lay_21 v_columns v_taken v_cube v_thrown v_rows v_cubes v_placements v_kept v_bits v_colours v_laid x1 x2 x3 x4 x5 (1 : Int32))))
abbrev qc_X5_lay (A : Nat → Prop) (dC : Nat → ClassId) (dI : Nat → Nat → Nat) (cB cI cJ cZ : ClassId) (a_this a_bits a_colours a_cube a_laid a_times a_takes a_choice a_isChosen a_column a_next a_barredAt a_ways a_own a_goes a_rowGoes a_mark a_count a_colour : Nat) (v_columns : Int32) (v_needed : Int32) (v_taken : Int32) (v_chosen : Int32) (v_nodes : Int32) (v_found : Int32) (v_isSpent : Int32) (v_told : Int32) (v_turns : Int32) (v_toldNodes : Int32) (v_cube : (Nat → Int32)) (out : Int32 × Int32 × Int32 × Int32 × Int32 × Int32 × (Nat → Int32) × (Nat → Int32) × (Nat → Int32)) : Array Value → State → Outcome → State → Prop := va_Qi (fun (r : Int32) (u : Int32 × Int32 × Int32 × Int32 × Int32 × (Nat → Int32) × (Nat → Int32) × (Nat → Int32)) => r = out.1 ∧ u = out.2) (fun (u : Int32 × Int32 × Int32 × Int32 × Int32 × (Nat → Int32) × (Nat → Int32) × (Nat → Int32)) (t : State) => va_P (dC, dI) vwCl (ws_X5_lay cB cI cJ cZ a_this a_bits a_colours a_cube a_laid a_times a_takes a_choice a_isChosen a_column a_next a_barredAt a_ways a_own a_goes a_rowGoes a_mark a_count a_colour u.1 v_columns v_needed u.2.1 u.2.2.1 u.2.2.2.1 v_taken v_chosen v_nodes v_found v_isSpent v_told u.2.2.2.2.1 v_turns v_toldNodes u.2.2.2.2.2.1 u.2.2.2.2.2.2.1 v_cube u.2.2.2.2.2.2.2) t.heap ∧ va_K (dC, dI) vwCl (tysG cB cI cJ cZ) t ∧ va_D A (ws_X5_lay cB cI cJ cZ a_this a_bits a_colours a_cube a_laid a_times a_takes a_choice a_isChosen a_column a_next a_barredAt a_ways a_own a_goes a_rowGoes a_mark a_count a_colour u.1 v_columns v_needed u.2.1 u.2.2.1 u.2.2.2.1 v_taken v_chosen v_nodes v_found v_isSpent v_told u.2.2.2.2.1 v_turns v_toldNodes u.2.2.2.2.2.1 u.2.2.2.2.2.2.1 v_cube u.2.2.2.2.2.2.2)) A
abbrev g_X5_lay_100 (p : Program) (l : Launch) (e : Env) (s : State) (m : MethodId) (args : Array Value) (below : List Frame) (meth : Method) (c : Code) (A : Nat → Prop) (dC : Nat → ClassId) (dI : Nat → Nat → Nat) (cB cI cJ cZ : ClassId) (a_this a_bits a_colours a_cube a_laid a_times a_takes a_choice a_isChosen a_column a_next a_barredAt a_ways a_own a_goes a_rowGoes a_mark a_count a_colour : Nat) (v_columns : Int32) (v_needed : Int32) (v_taken : Int32) (v_chosen : Int32) (v_nodes : Int32) (v_found : Int32) (v_isSpent : Int32) (v_told : Int32) (v_turns : Int32) (v_toldNodes : Int32) (v_cube : (Nat → Int32)) (out : Int32 × Int32 × Int32 × Int32 × Int32 × Int32 × (Nat → Int32) × (Nat → Int32) × (Nat → Int32)) (k : Int32 → Int32 → Int32 → Int32 → Int32 → (Nat → Int32) → (Nat → Int32) → (Nat → Int32) → Option (Int32 × Int32 × Int32 × Int32 × Int32 × Int32 × (Nat → Int32) × (Nat → Int32) × (Nat → Int32))) : Prop := ∀ (v_thrown : Int32) (v_rows : Int32) (v_cubes : Int32) (v_placements : Int32) (v_kept : Int32) (v_bits : (Nat → Int32)) (v_colours : (Nat → Int32)) (v_laid : (Nat → Int32)), k v_thrown v_rows v_cubes v_placements v_kept v_bits v_colours v_laid = some out → ∀ (H : Heap) (locs : List Loc), va_P (dC, dI) vwCl (ws_X5_lay cB cI cJ cZ a_this a_bits a_colours a_cube a_laid a_times a_takes a_choice a_isChosen a_column a_next a_barredAt a_ways a_own a_goes a_rowGoes a_mark a_count a_colour v_thrown v_columns v_needed v_rows v_cubes v_placements v_taken v_chosen v_nodes v_found v_isSpent v_told v_kept v_turns v_toldNodes v_bits v_colours v_cube v_laid) H → va_D A (ws_X5_lay cB cI cJ cZ a_this a_bits a_colours a_cube a_laid a_times a_takes a_choice a_isChosen a_column a_next a_barredAt a_ways a_own a_goes a_rowGoes a_mark a_count a_colour v_thrown v_columns v_needed v_rows v_cubes v_placements v_taken v_chosen v_nodes v_found v_isSpent v_told v_kept v_turns v_toldNodes v_bits v_colours v_cube v_laid) → va_S A s.heap H locs → ∀ (ls : Array Slot), lv_has ls 7 [] → W p l e (headSpec wsX5_lay rm_X5_lay).room s m args below meth c H locs 0 0 (MQ below (qc_X5_lay A dC dI cB cI cJ cZ a_this a_bits a_colours a_cube a_laid a_times a_takes a_choice a_isChosen a_column a_next a_barredAt a_ways a_own a_goes a_rowGoes a_mark a_count a_colour v_columns v_needed v_taken v_chosen v_nodes v_found v_isSpent v_told v_turns v_toldNodes v_cube out) args s 0 0 A) (F0 m 100 ls [])
abbrev g_X5_lay_158 (p : Program) (l : Launch) (e : Env) (s : State) (m : MethodId) (args : Array Value) (below : List Frame) (meth : Method) (c : Code) (A : Nat → Prop) (dC : Nat → ClassId) (dI : Nat → Nat → Nat) (cB cI cJ cZ : ClassId) (a_this a_bits a_colours a_cube a_laid a_times a_takes a_choice a_isChosen a_column a_next a_barredAt a_ways a_own a_goes a_rowGoes a_mark a_count a_colour : Nat) (v_columns : Int32) (v_needed : Int32) (v_taken : Int32) (v_chosen : Int32) (v_nodes : Int32) (v_found : Int32) (v_isSpent : Int32) (v_told : Int32) (v_turns : Int32) (v_toldNodes : Int32) (v_cube : (Nat → Int32)) (out : Int32 × Int32 × Int32 × Int32 × Int32 × Int32 × (Nat → Int32) × (Nat → Int32) × (Nat → Int32)) (k : Int32 → Int32 → Int32 → Int32 → Int32 → (Nat → Int32) → (Nat → Int32) → (Nat → Int32) → Option (Int32 × Int32 × Int32 × Int32 × Int32 × Int32 × (Nat → Int32) × (Nat → Int32) × (Nat → Int32))) : Prop := ∀ (v_thrown : Int32) (v_rows : Int32) (v_cubes : Int32) (v_placements : Int32) (v_kept : Int32) (v_bits : (Nat → Int32)) (v_colours : (Nat → Int32)) (v_laid : (Nat → Int32)), k v_thrown v_rows v_cubes v_placements v_kept v_bits v_colours v_laid = some out → ∀ (H : Heap) (locs : List Loc), va_P (dC, dI) vwCl (ws_X5_lay cB cI cJ cZ a_this a_bits a_colours a_cube a_laid a_times a_takes a_choice a_isChosen a_column a_next a_barredAt a_ways a_own a_goes a_rowGoes a_mark a_count a_colour v_thrown v_columns v_needed v_rows v_cubes v_placements v_taken v_chosen v_nodes v_found v_isSpent v_told v_kept v_turns v_toldNodes v_bits v_colours v_cube v_laid) H → va_D A (ws_X5_lay cB cI cJ cZ a_this a_bits a_colours a_cube a_laid a_times a_takes a_choice a_isChosen a_column a_next a_barredAt a_ways a_own a_goes a_rowGoes a_mark a_count a_colour v_thrown v_columns v_needed v_rows v_cubes v_placements v_taken v_chosen v_nodes v_found v_isSpent v_told v_kept v_turns v_toldNodes v_bits v_colours v_cube v_laid) → va_S A s.heap H locs → ∀ (ls : Array Slot), lv_has ls 7 [] → W p l e (headSpec wsX5_lay rm_X5_lay).room s m args below meth c H locs 0 0 (MQ below (qc_X5_lay A dC dI cB cI cJ cZ a_this a_bits a_colours a_cube a_laid a_times a_takes a_choice a_isChosen a_column a_next a_barredAt a_ways a_own a_goes a_rowGoes a_mark a_count a_colour v_columns v_needed v_taken v_chosen v_nodes v_found v_isSpent v_told v_turns v_toldNodes v_cube out) args s 0 0 A) (F0 m 158 ls [])
abbrev g_X5_lay_193 (p : Program) (l : Launch) (e : Env) (s : State) (m : MethodId) (args : Array Value) (below : List Frame) (meth : Method) (c : Code) (A : Nat → Prop) (dC : Nat → ClassId) (dI : Nat → Nat → Nat) (cB cI cJ cZ : ClassId) (a_this a_bits a_colours a_cube a_laid a_times a_takes a_choice a_isChosen a_column a_next a_barredAt a_ways a_own a_goes a_rowGoes a_mark a_count a_colour : Nat) (v_columns : Int32) (v_needed : Int32) (v_taken : Int32) (v_chosen : Int32) (v_nodes : Int32) (v_found : Int32) (v_isSpent : Int32) (v_told : Int32) (v_turns : Int32) (v_toldNodes : Int32) (v_cube : (Nat → Int32)) (out : Int32 × Int32 × Int32 × Int32 × Int32 × Int32 × (Nat → Int32) × (Nat → Int32) × (Nat → Int32)) (k : Int32 → Int32 → Int32 → Int32 → Int32 → (Nat → Int32) → (Nat → Int32) → (Nat → Int32) → Int32 → Int32 → Int32 → Int32 → Option (Int32 × Int32 × Int32 × Int32 × Int32 × Int32 × (Nat → Int32) × (Nat → Int32) × (Nat → Int32))) : Prop := ∀ (v_thrown : Int32) (v_rows : Int32) (v_cubes : Int32) (v_placements : Int32) (v_kept : Int32) (v_bits : (Nat → Int32)) (v_colours : (Nat → Int32)) (v_laid : (Nat → Int32)) (x5 : Int32) (x6 : Int32) (y0 : Int32) (y1 : Int32), k v_thrown v_rows v_cubes v_placements v_kept v_bits v_colours v_laid x5 x6 y0 y1 = some out → ∀ (H : Heap) (locs : List Loc), va_P (dC, dI) vwCl (ws_X5_lay cB cI cJ cZ a_this a_bits a_colours a_cube a_laid a_times a_takes a_choice a_isChosen a_column a_next a_barredAt a_ways a_own a_goes a_rowGoes a_mark a_count a_colour v_thrown v_columns v_needed v_rows v_cubes v_placements v_taken v_chosen v_nodes v_found v_isSpent v_told v_kept v_turns v_toldNodes v_bits v_colours v_cube v_laid) H → va_D A (ws_X5_lay cB cI cJ cZ a_this a_bits a_colours a_cube a_laid a_times a_takes a_choice a_isChosen a_column a_next a_barredAt a_ways a_own a_goes a_rowGoes a_mark a_count a_colour v_thrown v_columns v_needed v_rows v_cubes v_placements v_taken v_chosen v_nodes v_found v_isSpent v_told v_kept v_turns v_toldNodes v_bits v_colours v_cube v_laid) → va_S A s.heap H locs → ∀ (ls : Array Slot), lv_has ls 7 [(0, .ref a_this), (5, .int x5), (6, .int x6)] → W p l e (headSpec wsX5_lay rm_X5_lay).room s m args below meth c H locs 0 0 (MQ below (qc_X5_lay A dC dI cB cI cJ cZ a_this a_bits a_colours a_cube a_laid a_times a_takes a_choice a_isChosen a_column a_next a_barredAt a_ways a_own a_goes a_rowGoes a_mark a_count a_colour v_columns v_needed v_taken v_chosen v_nodes v_found v_isSpent v_told v_turns v_toldNodes v_cube out) args s 0 0 A) (F0 m 193 ls [.int y0, .int y1, .ref a_this])
abbrev g_X5_lay_163 (p : Program) (l : Launch) (e : Env) (s : State) (m : MethodId) (args : Array Value) (below : List Frame) (meth : Method) (c : Code) (A : Nat → Prop) (dC : Nat → ClassId) (dI : Nat → Nat → Nat) (cB cI cJ cZ : ClassId) (a_this a_bits a_colours a_cube a_laid a_times a_takes a_choice a_isChosen a_column a_next a_barredAt a_ways a_own a_goes a_rowGoes a_mark a_count a_colour : Nat) (v_columns : Int32) (v_needed : Int32) (v_taken : Int32) (v_chosen : Int32) (v_nodes : Int32) (v_found : Int32) (v_isSpent : Int32) (v_told : Int32) (v_turns : Int32) (v_toldNodes : Int32) (v_cube : (Nat → Int32)) (out : Int32 × Int32 × Int32 × Int32 × Int32 × Int32 × (Nat → Int32) × (Nat → Int32) × (Nat → Int32)) (k : Int32 → Int32 → Int32 → Int32 → Int32 → (Nat → Int32) → (Nat → Int32) → (Nat → Int32) → Int32 → Int32 → Option (Int32 × Int32 × Int32 × Int32 × Int32 × Int32 × (Nat → Int32) × (Nat → Int32) × (Nat → Int32))) : Prop := ∀ (v_thrown : Int32) (v_rows : Int32) (v_cubes : Int32) (v_placements : Int32) (v_kept : Int32) (v_bits : (Nat → Int32)) (v_colours : (Nat → Int32)) (v_laid : (Nat → Int32)) (x5 : Int32) (x6 : Int32), k v_thrown v_rows v_cubes v_placements v_kept v_bits v_colours v_laid x5 x6 = some out → ∀ (H : Heap) (locs : List Loc), va_P (dC, dI) vwCl (ws_X5_lay cB cI cJ cZ a_this a_bits a_colours a_cube a_laid a_times a_takes a_choice a_isChosen a_column a_next a_barredAt a_ways a_own a_goes a_rowGoes a_mark a_count a_colour v_thrown v_columns v_needed v_rows v_cubes v_placements v_taken v_chosen v_nodes v_found v_isSpent v_told v_kept v_turns v_toldNodes v_bits v_colours v_cube v_laid) H → va_D A (ws_X5_lay cB cI cJ cZ a_this a_bits a_colours a_cube a_laid a_times a_takes a_choice a_isChosen a_column a_next a_barredAt a_ways a_own a_goes a_rowGoes a_mark a_count a_colour v_thrown v_columns v_needed v_rows v_cubes v_placements v_taken v_chosen v_nodes v_found v_isSpent v_told v_kept v_turns v_toldNodes v_bits v_colours v_cube v_laid) → va_S A s.heap H locs → ∀ (ls : Array Slot), lv_has ls 7 [(0, .ref a_this), (5, .int x5), (6, .int x6)] → W p l e (headSpec wsX5_lay rm_X5_lay).room s m args below meth c H locs 0 0 (MQ below (qc_X5_lay A dC dI cB cI cJ cZ a_this a_bits a_colours a_cube a_laid a_times a_takes a_choice a_isChosen a_column a_next a_barredAt a_ways a_own a_goes a_rowGoes a_mark a_count a_colour v_columns v_needed v_taken v_chosen v_nodes v_found v_isSpent v_told v_turns v_toldNodes v_cube out) args s 0 0 A) (F0 m 163 ls [])
abbrev g_X5_lay_124 (p : Program) (l : Launch) (e : Env) (s : State) (m : MethodId) (args : Array Value) (below : List Frame) (meth : Method) (c : Code) (A : Nat → Prop) (dC : Nat → ClassId) (dI : Nat → Nat → Nat) (cB cI cJ cZ : ClassId) (a_this a_bits a_colours a_cube a_laid a_times a_takes a_choice a_isChosen a_column a_next a_barredAt a_ways a_own a_goes a_rowGoes a_mark a_count a_colour : Nat) (v_columns : Int32) (v_needed : Int32) (v_taken : Int32) (v_chosen : Int32) (v_nodes : Int32) (v_found : Int32) (v_isSpent : Int32) (v_told : Int32) (v_turns : Int32) (v_toldNodes : Int32) (v_cube : (Nat → Int32)) (out : Int32 × Int32 × Int32 × Int32 × Int32 × Int32 × (Nat → Int32) × (Nat → Int32) × (Nat → Int32)) (k : Int32 → Int32 → Int32 → Int32 → Int32 → (Nat → Int32) → (Nat → Int32) → (Nat → Int32) → Int32 → Int32 → Int32 → Int32 → Int32 → Int32 → Int32 → Option (Int32 × Int32 × Int32 × Int32 × Int32 × Int32 × (Nat → Int32) × (Nat → Int32) × (Nat → Int32))) : Prop := ∀ (v_thrown : Int32) (v_rows : Int32) (v_cubes : Int32) (v_placements : Int32) (v_kept : Int32) (v_bits : (Nat → Int32)) (v_colours : (Nat → Int32)) (v_laid : (Nat → Int32)) (x1 : Int32) (x2 : Int32) (x3 : Int32) (x4 : Int32) (x5 : Int32) (y0 : Int32) (y1 : Int32), k v_thrown v_rows v_cubes v_placements v_kept v_bits v_colours v_laid x1 x2 x3 x4 x5 y0 y1 = some out → ∀ (H : Heap) (locs : List Loc), va_P (dC, dI) vwCl (ws_X5_lay cB cI cJ cZ a_this a_bits a_colours a_cube a_laid a_times a_takes a_choice a_isChosen a_column a_next a_barredAt a_ways a_own a_goes a_rowGoes a_mark a_count a_colour v_thrown v_columns v_needed v_rows v_cubes v_placements v_taken v_chosen v_nodes v_found v_isSpent v_told v_kept v_turns v_toldNodes v_bits v_colours v_cube v_laid) H → va_D A (ws_X5_lay cB cI cJ cZ a_this a_bits a_colours a_cube a_laid a_times a_takes a_choice a_isChosen a_column a_next a_barredAt a_ways a_own a_goes a_rowGoes a_mark a_count a_colour v_thrown v_columns v_needed v_rows v_cubes v_placements v_taken v_chosen v_nodes v_found v_isSpent v_told v_kept v_turns v_toldNodes v_bits v_colours v_cube v_laid) → va_S A s.heap H locs → ∀ (ls : Array Slot), lv_has ls 7 [(0, .ref a_this), (1, .int x1), (2, .int x2), (3, .int x3), (4, .int x4), (5, .int x5)] → W p l e (headSpec wsX5_lay rm_X5_lay).room s m args below meth c H locs 0 0 (MQ below (qc_X5_lay A dC dI cB cI cJ cZ a_this a_bits a_colours a_cube a_laid a_times a_takes a_choice a_isChosen a_column a_next a_barredAt a_ways a_own a_goes a_rowGoes a_mark a_count a_colour v_columns v_needed v_taken v_chosen v_nodes v_found v_isSpent v_told v_turns v_toldNodes v_cube out) args s 0 0 A) (F0 m 124 ls [.int y0, .int y1, .ref a_this])
abbrev g_X5_lay_123 (p : Program) (l : Launch) (e : Env) (s : State) (m : MethodId) (args : Array Value) (below : List Frame) (meth : Method) (c : Code) (A : Nat → Prop) (dC : Nat → ClassId) (dI : Nat → Nat → Nat) (cB cI cJ cZ : ClassId) (a_this a_bits a_colours a_cube a_laid a_times a_takes a_choice a_isChosen a_column a_next a_barredAt a_ways a_own a_goes a_rowGoes a_mark a_count a_colour : Nat) (v_columns : Int32) (v_needed : Int32) (v_taken : Int32) (v_chosen : Int32) (v_nodes : Int32) (v_found : Int32) (v_isSpent : Int32) (v_told : Int32) (v_turns : Int32) (v_toldNodes : Int32) (v_cube : (Nat → Int32)) (out : Int32 × Int32 × Int32 × Int32 × Int32 × Int32 × (Nat → Int32) × (Nat → Int32) × (Nat → Int32)) (k : Int32 → Int32 → Int32 → Int32 → Int32 → (Nat → Int32) → (Nat → Int32) → (Nat → Int32) → Int32 → Int32 → Int32 → Int32 → Int32 → Int32 → Option (Int32 × Int32 × Int32 × Int32 × Int32 × Int32 × (Nat → Int32) × (Nat → Int32) × (Nat → Int32))) : Prop := ∀ (v_thrown : Int32) (v_rows : Int32) (v_cubes : Int32) (v_placements : Int32) (v_kept : Int32) (v_bits : (Nat → Int32)) (v_colours : (Nat → Int32)) (v_laid : (Nat → Int32)) (x1 : Int32) (x2 : Int32) (x3 : Int32) (x4 : Int32) (x5 : Int32) (y0 : Int32), k v_thrown v_rows v_cubes v_placements v_kept v_bits v_colours v_laid x1 x2 x3 x4 x5 y0 = some out → ∀ (H : Heap) (locs : List Loc), va_P (dC, dI) vwCl (ws_X5_lay cB cI cJ cZ a_this a_bits a_colours a_cube a_laid a_times a_takes a_choice a_isChosen a_column a_next a_barredAt a_ways a_own a_goes a_rowGoes a_mark a_count a_colour v_thrown v_columns v_needed v_rows v_cubes v_placements v_taken v_chosen v_nodes v_found v_isSpent v_told v_kept v_turns v_toldNodes v_bits v_colours v_cube v_laid) H → va_D A (ws_X5_lay cB cI cJ cZ a_this a_bits a_colours a_cube a_laid a_times a_takes a_choice a_isChosen a_column a_next a_barredAt a_ways a_own a_goes a_rowGoes a_mark a_count a_colour v_thrown v_columns v_needed v_rows v_cubes v_placements v_taken v_chosen v_nodes v_found v_isSpent v_told v_kept v_turns v_toldNodes v_bits v_colours v_cube v_laid) → va_S A s.heap H locs → ∀ (ls : Array Slot), lv_has ls 7 [(0, .ref a_this), (1, .int x1), (2, .int x2), (3, .int x3), (4, .int x4), (5, .int x5)] → W p l e (headSpec wsX5_lay rm_X5_lay).room s m args below meth c H locs 0 0 (MQ below (qc_X5_lay A dC dI cB cI cJ cZ a_this a_bits a_colours a_cube a_laid a_times a_takes a_choice a_isChosen a_column a_next a_barredAt a_ways a_own a_goes a_rowGoes a_mark a_count a_colour v_columns v_needed v_taken v_chosen v_nodes v_found v_isSpent v_told v_turns v_toldNodes v_cube out) args s 0 0 A) (F0 m 123 ls [.int y0, .ref a_this])
abbrev g_X5_lay_22 (p : Program) (l : Launch) (e : Env) (s : State) (m : MethodId) (args : Array Value) (below : List Frame) (meth : Method) (c : Code) (A : Nat → Prop) (dC : Nat → ClassId) (dI : Nat → Nat → Nat) (cB cI cJ cZ : ClassId) (a_this a_bits a_colours a_cube a_laid a_times a_takes a_choice a_isChosen a_column a_next a_barredAt a_ways a_own a_goes a_rowGoes a_mark a_count a_colour : Nat) (v_columns : Int32) (v_needed : Int32) (v_taken : Int32) (v_chosen : Int32) (v_nodes : Int32) (v_found : Int32) (v_isSpent : Int32) (v_told : Int32) (v_turns : Int32) (v_toldNodes : Int32) (v_cube : (Nat → Int32)) (out : Int32 × Int32 × Int32 × Int32 × Int32 × Int32 × (Nat → Int32) × (Nat → Int32) × (Nat → Int32)) (k : Int32 → Int32 → Int32 → Int32 → Int32 → (Nat → Int32) → (Nat → Int32) → (Nat → Int32) → Int32 → Int32 → Int32 → Int32 → Int32 → Int32 → Int32 → Option (Int32 × Int32 × Int32 × Int32 × Int32 × Int32 × (Nat → Int32) × (Nat → Int32) × (Nat → Int32))) : Prop := ∀ (v_thrown : Int32) (v_rows : Int32) (v_cubes : Int32) (v_placements : Int32) (v_kept : Int32) (v_bits : (Nat → Int32)) (v_colours : (Nat → Int32)) (v_laid : (Nat → Int32)) (x1 : Int32) (x2 : Int32) (x3 : Int32) (x4 : Int32) (x5 : Int32) (y0 : Int32) (y1 : Int32), k v_thrown v_rows v_cubes v_placements v_kept v_bits v_colours v_laid x1 x2 x3 x4 x5 y0 y1 = some out → ∀ (H : Heap) (locs : List Loc), va_P (dC, dI) vwCl (ws_X5_lay cB cI cJ cZ a_this a_bits a_colours a_cube a_laid a_times a_takes a_choice a_isChosen a_column a_next a_barredAt a_ways a_own a_goes a_rowGoes a_mark a_count a_colour v_thrown v_columns v_needed v_rows v_cubes v_placements v_taken v_chosen v_nodes v_found v_isSpent v_told v_kept v_turns v_toldNodes v_bits v_colours v_cube v_laid) H → va_D A (ws_X5_lay cB cI cJ cZ a_this a_bits a_colours a_cube a_laid a_times a_takes a_choice a_isChosen a_column a_next a_barredAt a_ways a_own a_goes a_rowGoes a_mark a_count a_colour v_thrown v_columns v_needed v_rows v_cubes v_placements v_taken v_chosen v_nodes v_found v_isSpent v_told v_kept v_turns v_toldNodes v_bits v_colours v_cube v_laid) → va_S A s.heap H locs → ∀ (ls : Array Slot), lv_has ls 7 [(0, .ref a_this), (1, .int x1), (2, .int x2), (3, .int x3), (4, .int x4), (5, .int x5)] → W p l e (headSpec wsX5_lay rm_X5_lay).room s m args below meth c H locs 0 0 (MQ below (qc_X5_lay A dC dI cB cI cJ cZ a_this a_bits a_colours a_cube a_laid a_times a_takes a_choice a_isChosen a_column a_next a_barredAt a_ways a_own a_goes a_rowGoes a_mark a_count a_colour v_columns v_needed v_taken v_chosen v_nodes v_found v_isSpent v_told v_turns v_toldNodes v_cube out) args s 0 0 A) (F0 m 22 ls [.int y0, .int y1, .ref a_this])
abbrev g_X5_lay_21 (p : Program) (l : Launch) (e : Env) (s : State) (m : MethodId) (args : Array Value) (below : List Frame) (meth : Method) (c : Code) (A : Nat → Prop) (dC : Nat → ClassId) (dI : Nat → Nat → Nat) (cB cI cJ cZ : ClassId) (a_this a_bits a_colours a_cube a_laid a_times a_takes a_choice a_isChosen a_column a_next a_barredAt a_ways a_own a_goes a_rowGoes a_mark a_count a_colour : Nat) (v_columns : Int32) (v_needed : Int32) (v_taken : Int32) (v_chosen : Int32) (v_nodes : Int32) (v_found : Int32) (v_isSpent : Int32) (v_told : Int32) (v_turns : Int32) (v_toldNodes : Int32) (v_cube : (Nat → Int32)) (out : Int32 × Int32 × Int32 × Int32 × Int32 × Int32 × (Nat → Int32) × (Nat → Int32) × (Nat → Int32)) (k : Int32 → Int32 → Int32 → Int32 → Int32 → (Nat → Int32) → (Nat → Int32) → (Nat → Int32) → Int32 → Int32 → Int32 → Int32 → Int32 → Int32 → Option (Int32 × Int32 × Int32 × Int32 × Int32 × Int32 × (Nat → Int32) × (Nat → Int32) × (Nat → Int32))) : Prop := ∀ (v_thrown : Int32) (v_rows : Int32) (v_cubes : Int32) (v_placements : Int32) (v_kept : Int32) (v_bits : (Nat → Int32)) (v_colours : (Nat → Int32)) (v_laid : (Nat → Int32)) (x1 : Int32) (x2 : Int32) (x3 : Int32) (x4 : Int32) (x5 : Int32) (y0 : Int32), k v_thrown v_rows v_cubes v_placements v_kept v_bits v_colours v_laid x1 x2 x3 x4 x5 y0 = some out → ∀ (H : Heap) (locs : List Loc), va_P (dC, dI) vwCl (ws_X5_lay cB cI cJ cZ a_this a_bits a_colours a_cube a_laid a_times a_takes a_choice a_isChosen a_column a_next a_barredAt a_ways a_own a_goes a_rowGoes a_mark a_count a_colour v_thrown v_columns v_needed v_rows v_cubes v_placements v_taken v_chosen v_nodes v_found v_isSpent v_told v_kept v_turns v_toldNodes v_bits v_colours v_cube v_laid) H → va_D A (ws_X5_lay cB cI cJ cZ a_this a_bits a_colours a_cube a_laid a_times a_takes a_choice a_isChosen a_column a_next a_barredAt a_ways a_own a_goes a_rowGoes a_mark a_count a_colour v_thrown v_columns v_needed v_rows v_cubes v_placements v_taken v_chosen v_nodes v_found v_isSpent v_told v_kept v_turns v_toldNodes v_bits v_colours v_cube v_laid) → va_S A s.heap H locs → ∀ (ls : Array Slot), lv_has ls 7 [(0, .ref a_this), (1, .int x1), (2, .int x2), (3, .int x3), (4, .int x4), (5, .int x5)] → W p l e (headSpec wsX5_lay rm_X5_lay).room s m args below meth c H locs 0 0 (MQ below (qc_X5_lay A dC dI cB cI cJ cZ a_this a_bits a_colours a_cube a_laid a_times a_takes a_choice a_isChosen a_column a_next a_barredAt a_ways a_own a_goes a_rowGoes a_mark a_count a_colour v_columns v_needed v_taken v_chosen v_nodes v_found v_isSpent v_told v_turns v_toldNodes v_cube out) args s 0 0 A) (F0 m 21 ls [.int y0, .ref a_this])
abbrev g_X5_lay_0 (p : Program) (l : Launch) (e : Env) (s : State) (m : MethodId) (args : Array Value) (below : List Frame) (meth : Method) (c : Code) (A : Nat → Prop) (dC : Nat → ClassId) (dI : Nat → Nat → Nat) (cB cI cJ cZ : ClassId) (a_this a_bits a_colours a_cube a_laid a_times a_takes a_choice a_isChosen a_column a_next a_barredAt a_ways a_own a_goes a_rowGoes a_mark a_count a_colour : Nat) (v_columns : Int32) (v_needed : Int32) (v_taken : Int32) (v_chosen : Int32) (v_nodes : Int32) (v_found : Int32) (v_isSpent : Int32) (v_told : Int32) (v_turns : Int32) (v_toldNodes : Int32) (v_cube : (Nat → Int32)) (out : Int32 × Int32 × Int32 × Int32 × Int32 × Int32 × (Nat → Int32) × (Nat → Int32) × (Nat → Int32)) (k : Int32 → Int32 → Int32 → Int32 → Int32 → (Nat → Int32) → (Nat → Int32) → (Nat → Int32) → Int32 → Int32 → Int32 → Int32 → Int32 → Option (Int32 × Int32 × Int32 × Int32 × Int32 × Int32 × (Nat → Int32) × (Nat → Int32) × (Nat → Int32))) : Prop := ∀ (v_thrown : Int32) (v_rows : Int32) (v_cubes : Int32) (v_placements : Int32) (v_kept : Int32) (v_bits : (Nat → Int32)) (v_colours : (Nat → Int32)) (v_laid : (Nat → Int32)) (x1 : Int32) (x2 : Int32) (x3 : Int32) (x4 : Int32) (x5 : Int32), k v_thrown v_rows v_cubes v_placements v_kept v_bits v_colours v_laid x1 x2 x3 x4 x5 = some out → ∀ (H : Heap) (locs : List Loc), va_P (dC, dI) vwCl (ws_X5_lay cB cI cJ cZ a_this a_bits a_colours a_cube a_laid a_times a_takes a_choice a_isChosen a_column a_next a_barredAt a_ways a_own a_goes a_rowGoes a_mark a_count a_colour v_thrown v_columns v_needed v_rows v_cubes v_placements v_taken v_chosen v_nodes v_found v_isSpent v_told v_kept v_turns v_toldNodes v_bits v_colours v_cube v_laid) H → va_D A (ws_X5_lay cB cI cJ cZ a_this a_bits a_colours a_cube a_laid a_times a_takes a_choice a_isChosen a_column a_next a_barredAt a_ways a_own a_goes a_rowGoes a_mark a_count a_colour v_thrown v_columns v_needed v_rows v_cubes v_placements v_taken v_chosen v_nodes v_found v_isSpent v_told v_kept v_turns v_toldNodes v_bits v_colours v_cube v_laid) → va_S A s.heap H locs → ∀ (ls : Array Slot), lv_has ls 7 [(0, .ref a_this), (1, .int x1), (2, .int x2), (3, .int x3), (4, .int x4), (5, .int x5)] → W p l e (headSpec wsX5_lay rm_X5_lay).room s m args below meth c H locs 0 0 (MQ below (qc_X5_lay A dC dI cB cI cJ cZ a_this a_bits a_colours a_cube a_laid a_times a_takes a_choice a_isChosen a_column a_next a_barredAt a_ways a_own a_goes a_rowGoes a_mark a_count a_colour v_columns v_needed v_taken v_chosen v_nodes v_found v_isSpent v_told v_turns v_toldNodes v_cube out) args s 0 0 A) (F0 m 0 ls [])
set_option maxHeartbeats 4000000 in
set_option maxRecDepth 100000 in
theorem w_X5_lay_100 {p : Program} {l : Launch} {e : Env} {s : State} {m : MethodId} {args : Array Value} {below : List Frame} {meth : Method} {c : Code} {A : Nat → Prop} {dC : Nat → ClassId} {dI : Nat → Nat → Nat} {cB cI cJ cZ : ClassId} {a_this a_bits a_colours a_cube a_laid a_times a_takes a_choice a_isChosen a_column a_next a_barredAt a_ways a_own a_goes a_rowGoes a_mark a_count a_colour : Nat} {v_columns : Int32} {v_needed : Int32} {v_taken : Int32} {v_chosen : Int32} {v_nodes : Int32} {v_found : Int32} {v_isSpent : Int32} {v_told : Int32} {v_turns : Int32} {v_toldNodes : Int32} {v_cube : (Nat → Int32)} {out : Int32 × Int32 × Int32 × Int32 × Int32 × Int32 × (Nat → Int32) × (Nat → Int32) × (Nat → Int32)} (C0 : Cx RX5 cX5_lay (some .int) 7 wsX5_lay p s m args meth c A) (hK : va_K (dC, dI) vwCl (tysG cB cI cJ cZ) s)  : g_X5_lay_100 p l e s m args below meth c A dC dI cB cI cJ cZ a_this a_bits a_colours a_cube a_laid a_times a_takes a_choice a_isChosen a_column a_next a_barredAt a_ways a_own a_goes a_rowGoes a_mark a_count a_colour v_columns v_needed v_taken v_chosen v_nodes v_found v_isSpent v_told v_turns v_toldNodes v_cube out (f_X5_lay_100 v_columns v_taken v_cube ) := by
  obtain ⟨hx, hb, hr, hml, hown, hts, hlocks, hA⟩ := id C0
  intro v_thrown v_rows v_cubes v_placements v_kept v_bits v_colours v_laid hf H locs hP hD hS ls hl
  replace hf : ((some (((-1 : Int32), (v_thrown, v_rows, v_cubes, v_placements, v_kept, v_bits, v_colours, v_laid)))) : Option (Int32 × Int32 × Int32 × Int32 × Int32 × Int32 × (Nat → Int32) × (Nat → Int32) × (Nat → Int32))) = some out := hf
  refine lv_iconst (v := -1) hx hb dX5_lay_100 (by decide) ?_
  have h9 := Option.some.inj hf
  have h8 := congrArg Prod.fst h9
  have h7 := congrArg Prod.snd h9
  exact W.iret (v := (-1 : Int32)) hx hb hr (fun t ht hW => ⟨⟨(-1 : Int32), (v_thrown, v_rows, v_cubes, v_placements, v_kept, v_bits, v_colours, v_laid), rfl, ⟨h8, h7⟩, by rw [ht]; exact hP, va_K.moved hW.alike hK, hD⟩, hS.F ht⟩) hS.2.2 dX5_lay_101
set_option maxHeartbeats 4000000 in
set_option maxRecDepth 100000 in
theorem w_X5_lay_158 {p : Program} {l : Launch} {e : Env} {s : State} {m : MethodId} {args : Array Value} {below : List Frame} {meth : Method} {c : Code} {A : Nat → Prop} {dC : Nat → ClassId} {dI : Nat → Nat → Nat} {cB cI cJ cZ : ClassId} {a_this a_bits a_colours a_cube a_laid a_times a_takes a_choice a_isChosen a_column a_next a_barredAt a_ways a_own a_goes a_rowGoes a_mark a_count a_colour : Nat} {v_columns : Int32} {v_needed : Int32} {v_taken : Int32} {v_chosen : Int32} {v_nodes : Int32} {v_found : Int32} {v_isSpent : Int32} {v_told : Int32} {v_turns : Int32} {v_toldNodes : Int32} {v_cube : (Nat → Int32)} {out : Int32 × Int32 × Int32 × Int32 × Int32 × Int32 × (Nat → Int32) × (Nat → Int32) × (Nat → Int32)} (C0 : Cx RX5 cX5_lay (some .int) 7 wsX5_lay p s m args meth c A) (hK : va_K (dC, dI) vwCl (tysG cB cI cJ cZ) s)  : g_X5_lay_158 p l e s m args below meth c A dC dI cB cI cJ cZ a_this a_bits a_colours a_cube a_laid a_times a_takes a_choice a_isChosen a_column a_next a_barredAt a_ways a_own a_goes a_rowGoes a_mark a_count a_colour v_columns v_needed v_taken v_chosen v_nodes v_found v_isSpent v_told v_turns v_toldNodes v_cube out (f_X5_lay_158 v_columns v_taken v_cube ) := by
  obtain ⟨hx, hb, hr, hml, hown, hts, hlocks, hA⟩ := id C0
  intro v_thrown v_rows v_cubes v_placements v_kept v_bits v_colours v_laid hf H locs hP hD hS ls hl
  replace hf : ((some (((-1 : Int32), (v_thrown, v_rows, v_cubes, v_placements, v_kept, v_bits, v_colours, v_laid)))) : Option (Int32 × Int32 × Int32 × Int32 × Int32 × Int32 × (Nat → Int32) × (Nat → Int32) × (Nat → Int32))) = some out := hf
  refine lv_iconst (v := -1) hx hb dX5_lay_158 (by decide) ?_
  have h9 := Option.some.inj hf
  have h8 := congrArg Prod.fst h9
  have h7 := congrArg Prod.snd h9
  exact W.iret (v := (-1 : Int32)) hx hb hr (fun t ht hW => ⟨⟨(-1 : Int32), (v_thrown, v_rows, v_cubes, v_placements, v_kept, v_bits, v_colours, v_laid), rfl, ⟨h8, h7⟩, by rw [ht]; exact hP, va_K.moved hW.alike hK, hD⟩, hS.F ht⟩) hS.2.2 dX5_lay_159
set_option maxHeartbeats 4000000 in
set_option maxRecDepth 100000 in
theorem w_X5_lay_193 {p : Program} {l : Launch} {e : Env} {s : State} {m : MethodId} {args : Array Value} {below : List Frame} {meth : Method} {c : Code} {A : Nat → Prop} {dC : Nat → ClassId} {dI : Nat → Nat → Nat} {cB cI cJ cZ : ClassId} {a_this a_bits a_colours a_cube a_laid a_times a_takes a_choice a_isChosen a_column a_next a_barredAt a_ways a_own a_goes a_rowGoes a_mark a_count a_colour : Nat} {v_columns : Int32} {v_needed : Int32} {v_taken : Int32} {v_chosen : Int32} {v_nodes : Int32} {v_found : Int32} {v_isSpent : Int32} {v_told : Int32} {v_turns : Int32} {v_toldNodes : Int32} {v_cube : (Nat → Int32)} {out : Int32 × Int32 × Int32 × Int32 × Int32 × Int32 × (Nat → Int32) × (Nat → Int32) × (Nat → Int32)} (C0 : Cx RX5 cX5_lay (some .int) 7 wsX5_lay p s m args meth c A) (hK : va_K (dC, dI) vwCl (tysG cB cI cJ cZ) s) {k_163 : Int32 → Int32 → Int32 → Int32 → Int32 → (Nat → Int32) → (Nat → Int32) → (Nat → Int32) → Int32 → Int32 → Option (Int32 × Int32 × Int32 × Int32 × Int32 × Int32 × (Nat → Int32) × (Nat → Int32) × (Nat → Int32))} (hk_163 : g_X5_lay_163 p l e s m args below meth c A dC dI cB cI cJ cZ a_this a_bits a_colours a_cube a_laid a_times a_takes a_choice a_isChosen a_column a_next a_barredAt a_ways a_own a_goes a_rowGoes a_mark a_count a_colour v_columns v_needed v_taken v_chosen v_nodes v_found v_isSpent v_told v_turns v_toldNodes v_cube out k_163) : g_X5_lay_193 p l e s m args below meth c A dC dI cB cI cJ cZ a_this a_bits a_colours a_cube a_laid a_times a_takes a_choice a_isChosen a_column a_next a_barredAt a_ways a_own a_goes a_rowGoes a_mark a_count a_colour v_columns v_needed v_taken v_chosen v_nodes v_found v_isSpent v_told v_turns v_toldNodes v_cube out (f_X5_lay_193 v_columns v_taken v_cube k_163) := by
  obtain ⟨hx, hb, hr, hml, hown, hts, hlocks, hA⟩ := id C0
  intro v_thrown v_rows v_cubes v_placements v_kept v_bits v_colours v_laid x5 x6 y0 y1 hf H locs hP hD hS ls hl
  replace hf : (((f_X5_addRow v_rows v_kept v_bits v_colours (y1 ||| y0)).bind (fun o_1 =>
  k_163 v_thrown o_1.2.1 v_cubes v_placements o_1.2.2.1 o_1.2.2.2.1 o_1.2.2.2.2 v_laid x5 (x6 + 1))) : Option (Int32 × Int32 × Int32 × Int32 × Int32 × Int32 × (Nat → Int32) × (Nat → Int32) × (Nat → Int32))) = some out := hf
  refine lv_ior hx hb dX5_lay_193 ?_
  obtain ⟨o_1, ho_1, hf⟩ := gd_bd hf
  have hPc := hP.sub (ws' := ws_X5_addRow cB cI cJ cZ a_this a_bits a_colours a_times a_cube a_laid a_takes a_choice a_isChosen a_column a_next a_barredAt a_ways a_own a_goes a_rowGoes a_mark a_count a_colour v_thrown v_columns v_needed v_rows v_cubes v_placements v_taken v_chosen v_nodes v_found v_isSpent v_told v_kept v_turns v_toldNodes v_bits v_colours) [0, 1, 2] rfl
  have hDc := hD.sub (ws' := ws_X5_addRow cB cI cJ cZ a_this a_bits a_colours a_times a_cube a_laid a_takes a_choice a_isChosen a_column a_next a_barredAt a_ways a_own a_goes a_rowGoes a_mark a_count a_colour v_thrown v_columns v_needed v_rows v_cubes v_placements v_taken v_chosen v_nodes v_found v_isSpent v_told v_kept v_turns v_toldNodes v_bits v_colours) [0, 1, 2] (by decide) rfl
  have hFc := va_free (wc := ws_X5_addRow cB cI cJ cZ a_this a_bits a_colours a_times a_cube a_laid a_takes a_choice a_isChosen a_column a_next a_barredAt a_ways a_own a_goes a_rowGoes a_mark a_count a_colour v_thrown v_columns v_needed v_rows v_cubes v_placements v_taken v_chosen v_nodes v_found v_isSpent v_told v_kept v_turns v_toldNodes v_bits v_colours) hD hS hA [0, 1, 2] rfl
  refine va_calli (va_runV (As := [.int (y1 ||| y0)]) (rest := []) ⟨hx, hb, hml, hown, hts⟩ (c_X5_addRow l dC dI cB cI cJ cZ a_this a_bits a_colours a_times a_cube a_laid a_takes a_choice a_isChosen a_column a_next a_barredAt a_ways a_own a_goes a_rowGoes a_mark a_count a_colour H.size v_thrown v_columns v_needed v_rows v_cubes v_placements v_taken v_chosen v_nodes v_found v_isSpent v_told v_kept v_turns v_toldNodes v_bits v_colours (y1 ||| y0) o_1 ho_1) (cwV 1 hts gX5_lay_X5_addRow rfl rfl rfl ⟨rfl, nd_X5_addRow⟩ ⟨Nat.le_of_ble_eq_true rfl, Nat.le_of_ble_eq_true rfl⟩) ⟨fun a U g mk q => by obtain ⟨q0, q1, qP, qK, qD⟩ := q; exact ⟨q0, q1, qP, va_K.moved (u := U) (U := U.calling g mk a) (Vm.Alike.refl U.vm) qK, qD⟩, va_recv hK hPc (ci := 6) (q0 := 0) rfl rfl, fun U hU hW => ⟨rfl, by rw [hU], by rw [hU]; exact hPc, va_K.moved hW.alike hK, hDc.weaken (fun _ _ _ _ => trivial)⟩⟩ rfl rfl hl.1 rfl (lv_room (Nat.le_of_ble_eq_true rfl)) dX5_lay_194 ⟨Nat.le_of_ble_eq_true rfl, Nat.le_of_ble_eq_true rfl⟩) hS (fun q _ h => hFc q h) hFc (fun r_1 u_1 t H1 locs ht hvm hw hB hz1 hk1 hS => ?_)
  obtain ⟨rfl, rfl⟩ := hw
  obtain ⟨hP1, hK1, hD1⟩ := hB
  rw [ht] at hP1
  obtain ⟨hP, hD⟩ := va_join (wr := [(a_cube, .inl (cI, 7, .inl v_cube)), (a_laid, .inl (cI, 60, .inl v_laid))]) (w1 := ws_X5_addRow cB cI cJ cZ a_this a_bits a_colours a_times a_cube a_laid a_takes a_choice a_isChosen a_column a_next a_barredAt a_ways a_own a_goes a_rowGoes a_mark a_count a_colour v_thrown v_columns v_needed o_1.2.1 v_cubes v_placements v_taken v_chosen v_nodes v_found v_isSpent v_told o_1.2.2.1 v_turns v_toldNodes o_1.2.2.2.1 o_1.2.2.2.2) hP hD [0, 1, 2] [3, 4] rfl rfl (by decide) (by decide) hk1 hFc hP1 hD1
  generalize H1 = H at hP hS ⊢
  have hP : va_P (dC, dI) vwCl (ws_X5_lay cB cI cJ cZ a_this a_bits a_colours a_cube a_laid a_times a_takes a_choice a_isChosen a_column a_next a_barredAt a_ways a_own a_goes a_rowGoes a_mark a_count a_colour v_thrown v_columns v_needed o_1.2.1 v_cubes v_placements v_taken v_chosen v_nodes v_found v_isSpent v_told o_1.2.2.1 v_turns v_toldNodes o_1.2.2.2.1 o_1.2.2.2.2 v_cube v_laid) H := hP.sub [2, 3, 4, 0, 1] rfl
  have hD : va_D A (ws_X5_lay cB cI cJ cZ a_this a_bits a_colours a_cube a_laid a_times a_takes a_choice a_isChosen a_column a_next a_barredAt a_ways a_own a_goes a_rowGoes a_mark a_count a_colour v_thrown v_columns v_needed o_1.2.1 v_cubes v_placements v_taken v_chosen v_nodes v_found v_isSpent v_told o_1.2.2.1 v_turns v_toldNodes o_1.2.2.2.1 o_1.2.2.2.2 v_cube v_laid) := hD.sub [2, 3, 4, 0, 1] (by decide) rfl
  refine lv_pop hx hb dX5_lay_197 rfl ?_
  refine lv_iinc (v := (x6 + 1)) (lv' := [(6, .int (x6 + 1)), (0, .ref a_this), (5, .int x5)]) hx hb dX5_lay_198 hl (k := 2) rfl rfl (by decide) rfl (fun ls hl => ?_)
  refine lv_goto (tgt := 163) hx hb dX5_lay_201 (by decide) ?_
  exact hk_163 v_thrown o_1.2.1 v_cubes v_placements o_1.2.2.1 o_1.2.2.2.1 o_1.2.2.2.2 v_laid x5 (x6 + 1) hf _ _ hP hD hS ls (lv_sub hl [1, 2, 0] rfl)
set_option maxHeartbeats 4000000 in
set_option maxRecDepth 100000 in
theorem w_X5_lay_163 {p : Program} {l : Launch} {e : Env} {s : State} {m : MethodId} {args : Array Value} {below : List Frame} {meth : Method} {c : Code} {A : Nat → Prop} {dC : Nat → ClassId} {dI : Nat → Nat → Nat} {cB cI cJ cZ : ClassId} {a_this a_bits a_colours a_cube a_laid a_times a_takes a_choice a_isChosen a_column a_next a_barredAt a_ways a_own a_goes a_rowGoes a_mark a_count a_colour : Nat} {v_columns : Int32} {v_needed : Int32} {v_taken : Int32} {v_chosen : Int32} {v_nodes : Int32} {v_found : Int32} {v_isSpent : Int32} {v_told : Int32} {v_turns : Int32} {v_toldNodes : Int32} {v_cube : (Nat → Int32)} {out : Int32 × Int32 × Int32 × Int32 × Int32 × Int32 × (Nat → Int32) × (Nat → Int32) × (Nat → Int32)} (C0 : Cx RX5 cX5_lay (some .int) 7 wsX5_lay p s m args meth c A) (hK : va_K (dC, dI) vwCl (tysG cB cI cJ cZ) s)  : ∀ n : Nat, g_X5_lay_163 p l e s m args below meth c A dC dI cB cI cJ cZ a_this a_bits a_colours a_cube a_laid a_times a_takes a_choice a_isChosen a_column a_next a_barredAt a_ways a_own a_goes a_rowGoes a_mark a_count a_colour v_columns v_needed v_taken v_chosen v_nodes v_found v_isSpent v_told v_turns v_toldNodes v_cube out (f_X5_lay_163 v_columns v_taken v_cube  n) := by
  obtain ⟨hx, hb, hr, hml, hown, hts, hlocks, hA⟩ := id C0
  intro n
  induction n with
  | zero =>
    intro v_thrown v_rows v_cubes v_placements v_kept v_bits v_colours v_laid x5 x6 hf H locs hP hD hS ls hl
    exact nomatch (show (none : Option (Int32 × Int32 × Int32 × Int32 × Int32 × Int32 × (Nat → Int32) × (Nat → Int32) × (Nat → Int32))) = some out from hf)
  | succ n ih =>
    intro v_thrown v_rows v_cubes v_placements v_kept v_bits v_colours v_laid x5 x6 hf H locs hP hD hS ls hl
    replace hf : ((if v_placements ≤ x6 then
  (some ((v_placements, (v_thrown, v_rows, (0 : Int32), v_placements, v_kept, v_bits, v_colours, v_laid))))
  else
  (if (x6 < 0 ∨ 60 ≤ Int32.toNatClampNeg x6) then none else
  if x5 < 0 then
  (f_X5_lay_193 v_columns v_taken v_cube (f_X5_lay_163 v_columns v_taken v_cube n) v_thrown v_rows v_cubes v_placements v_kept v_bits v_colours v_laid x5 x6 (0 : Int32) (v_laid (Int32.toNatClampNeg x6)))
  else
  (f_X5_lay_193 v_columns v_taken v_cube (f_X5_lay_163 v_columns v_taken v_cube n) v_thrown v_rows v_cubes v_placements v_kept v_bits v_colours v_laid x5 x6 ((1 : Int32) <<< (x5 &&& 31)) (v_laid (Int32.toNatClampNeg x6))))) : Option (Int32 × Int32 × Int32 × Int32 × Int32 × Int32 × (Nat → Int32) × (Nat → Int32) × (Nat → Int32))) = some out := hf
    refine lv_iload hx hb dX5_lay_163 (lv_at hl 2 rfl) ?_
    refine lv_aload_n hx hb dX5_lay_165 rfl (lv_at hl 0 rfl) ?_
    refine va_get (D := (dC, dI)) (ci := 6) (v := .int v_placements) (C := RX5) (T := TX5) (N := 33) hx hb hts in_X5_lay_X5 hown hK hP 0 rfl rfl 10 (by decide) (hts (.fieldLink RX5 115 "LinkedCoversModel" "placements" "I") lk_X5_lay_f115) (fun _ h9 => h9) rfl dX5_lay_166 ?_
    refine lv_icmp_ge (tgt := 204) hx hb dX5_lay_169 (by decide) (fun c_2 => ?_) (fun c_2 => ?_)
    · replace hf := (if_pos c_2).symm.trans hf
      refine lv_aload_n hx hb dX5_lay_204 rfl (lv_at hl 0 rfl) ?_
      refine lv_iconst (v := 0) hx hb dX5_lay_205 (by decide) ?_
      refine va_put (D := (dC, dI)) (ci := 6) (v := .int (0 : Int32)) (ty := .int) (C := RX5) (T := TX5) (N := 33) hx hb hts in_X5_lay_X5 tyX5 tyX5_ok nmX5 hown hK hP hD hS 0 rfl rfl 7 (by decide) (hts (.fieldLink RX5 104 "LinkedCoversModel" "cubes" "I") lk_X5_lay_f104) (fun _ h9 => h9) rfl (by decide +kernel) rfl rfl (Nat.le_of_ble_eq_true rfl) dX5_lay_206 (fun H locs hP hD hS => ?_)
      have hP : va_P (dC, dI) vwCl (ws_X5_lay cB cI cJ cZ a_this a_bits a_colours a_cube a_laid a_times a_takes a_choice a_isChosen a_column a_next a_barredAt a_ways a_own a_goes a_rowGoes a_mark a_count a_colour v_thrown v_columns v_needed v_rows (0 : Int32) v_placements v_taken v_chosen v_nodes v_found v_isSpent v_told v_kept v_turns v_toldNodes v_bits v_colours v_cube v_laid) H := hP
      have hD : va_D A (ws_X5_lay cB cI cJ cZ a_this a_bits a_colours a_cube a_laid a_times a_takes a_choice a_isChosen a_column a_next a_barredAt a_ways a_own a_goes a_rowGoes a_mark a_count a_colour v_thrown v_columns v_needed v_rows (0 : Int32) v_placements v_taken v_chosen v_nodes v_found v_isSpent v_told v_kept v_turns v_toldNodes v_bits v_colours v_cube v_laid) := hD
      refine lv_aload_n hx hb dX5_lay_209 rfl (lv_at hl 0 rfl) ?_
      refine va_get (D := (dC, dI)) (ci := 6) (v := .int v_placements) (C := RX5) (T := TX5) (N := 33) hx hb hts in_X5_lay_X5 hown hK hP 0 rfl rfl 10 (by decide) (hts (.fieldLink RX5 115 "LinkedCoversModel" "placements" "I") lk_X5_lay_f115) (fun _ h9 => h9) rfl dX5_lay_210 ?_
      have h9 := Option.some.inj hf
      have h8 := congrArg Prod.fst h9
      have h7 := congrArg Prod.snd h9
      exact W.iret (v := v_placements) hx hb hr (fun t ht hW => ⟨⟨v_placements, (v_thrown, v_rows, (0 : Int32), v_placements, v_kept, v_bits, v_colours, v_laid), rfl, ⟨h8, h7⟩, by rw [ht]; exact hP, va_K.moved hW.alike hK, hD⟩, hS.F ht⟩) hS.2.2 dX5_lay_213
    · replace hf := (if_neg c_2).symm.trans hf
      refine lv_aload_n hx hb dX5_lay_172 rfl (lv_at hl 0 rfl) ?_
      refine lv_aload_n hx hb dX5_lay_173 rfl (lv_at hl 0 rfl) ?_
      refine va_get (D := (dC, dI)) (ci := 6) (v := .ref a_laid) (C := RX5) (T := TX5) (N := 33) hx hb hts in_X5_lay_X5 hown hK hP 0 rfl rfl 9 (by decide) (hts (.fieldLink RX5 22 "LinkedCoversModel" "laid" "[I") lk_X5_lay_f22) (fun _ h9 => h9) rfl dX5_lay_174 ?_
      refine lv_iload hx hb dX5_lay_177 (lv_at hl 2 rfl) ?_
      obtain ⟨h_3, hf⟩ := gd_ck hf
      refine va_iald hx hb hK hP 4 1 rfl rfl h_3 dX5_lay_179 ?_
      refine lv_iload hx hb dX5_lay_180 (lv_at hl 1 rfl) ?_
      refine lv_if_lt (tgt := 192) hx hb dX5_lay_182 (by decide) (fun c_4 => ?_) (fun c_4 => ?_)
      · replace hf := (if_pos c_4).symm.trans hf
        refine lv_iconst (v := 0) hx hb dX5_lay_192 (by decide) ?_
        exact w_X5_lay_193 C0 hK ih v_thrown v_rows v_cubes v_placements v_kept v_bits v_colours v_laid x5 x6 (0 : Int32) (v_laid (Int32.toNatClampNeg x6)) hf _ _ hP hD hS ls (lv_sub hl [0, 1, 2] rfl)
      · replace hf := (if_neg c_4).symm.trans hf
        refine lv_iconst (v := 1) hx hb dX5_lay_185 (by decide) ?_
        refine lv_iload hx hb dX5_lay_186 (lv_at hl 1 rfl) ?_
        refine lv_ishl hx hb dX5_lay_188 ?_
        refine lv_goto (tgt := 193) hx hb dX5_lay_189 (by decide) ?_
        exact w_X5_lay_193 C0 hK ih v_thrown v_rows v_cubes v_placements v_kept v_bits v_colours v_laid x5 x6 ((1 : Int32) <<< (x5 &&& 31)) (v_laid (Int32.toNatClampNeg x6)) hf _ _ hP hD hS ls (lv_sub hl [0, 1, 2] rfl)
set_option maxHeartbeats 4000000 in
set_option maxRecDepth 100000 in
theorem w_X5_lay_124 {p : Program} {l : Launch} {e : Env} {s : State} {m : MethodId} {args : Array Value} {below : List Frame} {meth : Method} {c : Code} {A : Nat → Prop} {dC : Nat → ClassId} {dI : Nat → Nat → Nat} {cB cI cJ cZ : ClassId} {a_this a_bits a_colours a_cube a_laid a_times a_takes a_choice a_isChosen a_column a_next a_barredAt a_ways a_own a_goes a_rowGoes a_mark a_count a_colour : Nat} {v_columns : Int32} {v_needed : Int32} {v_taken : Int32} {v_chosen : Int32} {v_nodes : Int32} {v_found : Int32} {v_isSpent : Int32} {v_told : Int32} {v_turns : Int32} {v_toldNodes : Int32} {v_cube : (Nat → Int32)} {out : Int32 × Int32 × Int32 × Int32 × Int32 × Int32 × (Nat → Int32) × (Nat → Int32) × (Nat → Int32)} (C0 : Cx RX5 cX5_lay (some .int) 7 wsX5_lay p s m args meth c A) (hK : va_K (dC, dI) vwCl (tysG cB cI cJ cZ) s)  : g_X5_lay_124 p l e s m args below meth c A dC dI cB cI cJ cZ a_this a_bits a_colours a_cube a_laid a_times a_takes a_choice a_isChosen a_column a_next a_barredAt a_ways a_own a_goes a_rowGoes a_mark a_count a_colour v_columns v_needed v_taken v_chosen v_nodes v_found v_isSpent v_told v_turns v_toldNodes v_cube out (f_X5_lay_124 v_columns v_taken v_cube ) := by
  obtain ⟨hx, hb, hr, hml, hown, hts, hlocks, hA⟩ := id C0
  intro v_thrown v_rows v_cubes v_placements v_kept v_bits v_colours v_laid x1 x2 x3 x4 x5 y0 y1 hf H locs hP hD hS ls hl
  replace hf : (((f_X5_throwsIf v_thrown y1 y0).bind (fun o_5 =>
  if o_5.1 = 0 then
  ((f_X5_layAll v_cubes v_cube v_placements v_laid x1 x2 x3 x4).bind (fun o_7 =>
  if o_7.1 = 0 then
  (f_X5_lay_158 v_columns v_taken v_cube o_5.2 v_rows v_cubes o_7.2.1 v_kept v_bits v_colours o_7.2.2)
  else
  (if (v_rows + o_7.2.1) ≤ (60 : Int32) then
  (f_X5_lay_163 v_columns v_taken v_cube 1000000 o_5.2 v_rows v_cubes o_7.2.1 v_kept v_bits v_colours o_7.2.2 x5 (0 : Int32))
  else
  (f_X5_lay_158 v_columns v_taken v_cube o_5.2 v_rows v_cubes o_7.2.1 v_kept v_bits v_colours o_7.2.2))))
  else
  (some (((0 : Int32), (o_5.2, v_rows, v_cubes, v_placements, v_kept, v_bits, v_colours, v_laid)))))) : Option (Int32 × Int32 × Int32 × Int32 × Int32 × Int32 × (Nat → Int32) × (Nat → Int32) × (Nat → Int32))) = some out := hf
  obtain ⟨o_5, ho_5, hf⟩ := gd_bd hf
  have hPc := hP.sub (ws' := ws_X5_throwsIf cB cI cJ cZ a_this a_times a_bits a_colours a_cube a_laid a_takes a_choice a_isChosen a_column a_next a_barredAt a_ways a_own a_goes a_rowGoes a_mark a_count a_colour v_thrown v_columns v_needed v_rows v_cubes v_placements v_taken v_chosen v_nodes v_found v_isSpent v_told v_kept v_turns v_toldNodes) [0] rfl
  have hDc := hD.sub (ws' := ws_X5_throwsIf cB cI cJ cZ a_this a_times a_bits a_colours a_cube a_laid a_takes a_choice a_isChosen a_column a_next a_barredAt a_ways a_own a_goes a_rowGoes a_mark a_count a_colour v_thrown v_columns v_needed v_rows v_cubes v_placements v_taken v_chosen v_nodes v_found v_isSpent v_told v_kept v_turns v_toldNodes) [0] (by decide) rfl
  have hFc := va_free (wc := ws_X5_throwsIf cB cI cJ cZ a_this a_times a_bits a_colours a_cube a_laid a_takes a_choice a_isChosen a_column a_next a_barredAt a_ways a_own a_goes a_rowGoes a_mark a_count a_colour v_thrown v_columns v_needed v_rows v_cubes v_placements v_taken v_chosen v_nodes v_found v_isSpent v_told v_kept v_turns v_toldNodes) hD hS hA [0] rfl
  refine va_calli (va_runV (As := [.int y1, .int y0]) (rest := []) ⟨hx, hb, hml, hown, hts⟩ (c_X5_throwsIf l dC dI cB cI cJ cZ a_this a_times a_bits a_colours a_cube a_laid a_takes a_choice a_isChosen a_column a_next a_barredAt a_ways a_own a_goes a_rowGoes a_mark a_count a_colour H.size v_thrown v_columns v_needed v_rows v_cubes v_placements v_taken v_chosen v_nodes v_found v_isSpent v_told v_kept v_turns v_toldNodes y1 y0 o_5 ho_5) (cwV 2 hts gX5_lay_X5_throwsIf rfl rfl rfl ⟨rfl, nd_X5_throwsIf⟩ ⟨Nat.le_of_ble_eq_true rfl, Nat.le_of_ble_eq_true rfl⟩) ⟨fun a U g mk q => by obtain ⟨q0, q1, qP, qK, qD⟩ := q; exact ⟨q0, q1, qP, va_K.moved (u := U) (U := U.calling g mk a) (Vm.Alike.refl U.vm) qK, qD⟩, va_recv hK hPc (ci := 6) (q0 := 0) rfl rfl, fun U hU hW => ⟨rfl, by rw [hU], by rw [hU]; exact hPc, va_K.moved hW.alike hK, hDc.weaken (fun _ _ _ _ => trivial)⟩⟩ rfl rfl hl.1 rfl (lv_room (Nat.le_of_ble_eq_true rfl)) dX5_lay_124 ⟨Nat.le_of_ble_eq_true rfl, Nat.le_of_ble_eq_true rfl⟩) hS (fun q _ h => hFc q h) hFc (fun r_5 u_5 t H1 locs ht hvm hw hB hz1 hk1 hS => ?_)
  obtain ⟨rfl, rfl⟩ := hw
  obtain ⟨hP1, hK1, hD1⟩ := hB
  rw [ht] at hP1
  obtain ⟨hP, hD⟩ := va_join (wr := [(a_bits, .inl (cI, 60, .inl v_bits)), (a_colours, .inl (cI, 1440, .inl v_colours)), (a_cube, .inl (cI, 7, .inl v_cube)), (a_laid, .inl (cI, 60, .inl v_laid))]) (w1 := ws_X5_throwsIf cB cI cJ cZ a_this a_times a_bits a_colours a_cube a_laid a_takes a_choice a_isChosen a_column a_next a_barredAt a_ways a_own a_goes a_rowGoes a_mark a_count a_colour o_5.2 v_columns v_needed v_rows v_cubes v_placements v_taken v_chosen v_nodes v_found v_isSpent v_told v_kept v_turns v_toldNodes) hP hD [0] [1, 2, 3, 4] rfl rfl (by decide) (by decide) hk1 hFc hP1 hD1
  generalize H1 = H at hP hS ⊢
  have hP : va_P (dC, dI) vwCl (ws_X5_lay cB cI cJ cZ a_this a_bits a_colours a_cube a_laid a_times a_takes a_choice a_isChosen a_column a_next a_barredAt a_ways a_own a_goes a_rowGoes a_mark a_count a_colour o_5.2 v_columns v_needed v_rows v_cubes v_placements v_taken v_chosen v_nodes v_found v_isSpent v_told v_kept v_turns v_toldNodes v_bits v_colours v_cube v_laid) H := hP.sub [4, 0, 1, 2, 3] rfl
  have hD : va_D A (ws_X5_lay cB cI cJ cZ a_this a_bits a_colours a_cube a_laid a_times a_takes a_choice a_isChosen a_column a_next a_barredAt a_ways a_own a_goes a_rowGoes a_mark a_count a_colour o_5.2 v_columns v_needed v_rows v_cubes v_placements v_taken v_chosen v_nodes v_found v_isSpent v_told v_kept v_turns v_toldNodes v_bits v_colours v_cube v_laid) := hD.sub [4, 0, 1, 2, 3] (by decide) rfl
  refine lv_if_eq (tgt := 132) hx hb dX5_lay_127 (by decide) (fun c_6 => ?_) (fun c_6 => ?_)
  · replace hf := (if_pos c_6).symm.trans hf
    refine lv_aload_n hx hb dX5_lay_132 rfl (lv_at hl 0 rfl) ?_
    refine lv_iload_n hx hb dX5_lay_133 rfl (lv_at hl 1 rfl) ?_
    refine lv_iload_n hx hb dX5_lay_134 rfl (lv_at hl 2 rfl) ?_
    refine lv_iload_n hx hb dX5_lay_135 rfl (lv_at hl 3 rfl) ?_
    refine lv_iload hx hb dX5_lay_136 (lv_at hl 4 rfl) ?_
    obtain ⟨o_7, ho_7, hf⟩ := gd_bd hf
    have hPc := hP.sub (ws' := ws_X5_layAll cB cI cJ cZ a_this a_cube a_laid a_times a_bits a_colours a_takes a_choice a_isChosen a_column a_next a_barredAt a_ways a_own a_goes a_rowGoes a_mark a_count a_colour o_5.2 v_columns v_needed v_rows v_cubes v_placements v_taken v_chosen v_nodes v_found v_isSpent v_told v_kept v_turns v_toldNodes v_cube v_laid) [0, 3, 4] rfl
    have hDc := hD.sub (ws' := ws_X5_layAll cB cI cJ cZ a_this a_cube a_laid a_times a_bits a_colours a_takes a_choice a_isChosen a_column a_next a_barredAt a_ways a_own a_goes a_rowGoes a_mark a_count a_colour o_5.2 v_columns v_needed v_rows v_cubes v_placements v_taken v_chosen v_nodes v_found v_isSpent v_told v_kept v_turns v_toldNodes v_cube v_laid) [0, 3, 4] (by decide) rfl
    have hFc := va_free (wc := ws_X5_layAll cB cI cJ cZ a_this a_cube a_laid a_times a_bits a_colours a_takes a_choice a_isChosen a_column a_next a_barredAt a_ways a_own a_goes a_rowGoes a_mark a_count a_colour o_5.2 v_columns v_needed v_rows v_cubes v_placements v_taken v_chosen v_nodes v_found v_isSpent v_told v_kept v_turns v_toldNodes v_cube v_laid) hD hS hA [0, 3, 4] rfl
    refine va_calli (va_runV (As := [.int x1, .int x2, .int x3, .int x4]) (rest := []) ⟨hx, hb, hml, hown, hts⟩ (c_X5_layAll l dC dI cB cI cJ cZ a_this a_cube a_laid a_times a_bits a_colours a_takes a_choice a_isChosen a_column a_next a_barredAt a_ways a_own a_goes a_rowGoes a_mark a_count a_colour H.size o_5.2 v_columns v_needed v_rows v_cubes v_placements v_taken v_chosen v_nodes v_found v_isSpent v_told v_kept v_turns v_toldNodes v_cube v_laid x1 x2 x3 x4 o_7 ho_7) (cwV 4 hts gX5_lay_X5_layAll rfl rfl rfl ⟨rfl, nd_X5_layAll⟩ ⟨Nat.le_of_ble_eq_true rfl, Nat.le_of_ble_eq_true rfl⟩) ⟨fun a U g mk q => by obtain ⟨q0, q1, qP, qK, qD⟩ := q; exact ⟨q0, q1, qP, va_K.moved (u := U) (U := U.calling g mk a) (Vm.Alike.refl U.vm) qK, qD⟩, va_recv hK hPc (ci := 6) (q0 := 0) rfl rfl, fun U hU hW => ⟨rfl, by rw [hU], by rw [hU]; exact hPc, va_K.moved hW.alike hK, hDc.weaken (fun _ _ _ _ => trivial)⟩⟩ rfl rfl hl.1 rfl (lv_room (Nat.le_of_ble_eq_true rfl)) dX5_lay_138 ⟨Nat.le_of_ble_eq_true rfl, Nat.le_of_ble_eq_true rfl⟩) hS (fun q _ h => hFc q h) hFc (fun r_7 u_7 t H1 locs ht hvm hw hB hz1 hk1 hS => ?_)
    obtain ⟨rfl, rfl⟩ := hw
    obtain ⟨hP1, hK1, hD1⟩ := hB
    rw [ht] at hP1
    obtain ⟨hP, hD⟩ := va_join (wr := [(a_bits, .inl (cI, 60, .inl v_bits)), (a_colours, .inl (cI, 1440, .inl v_colours))]) (w1 := ws_X5_layAll cB cI cJ cZ a_this a_cube a_laid a_times a_bits a_colours a_takes a_choice a_isChosen a_column a_next a_barredAt a_ways a_own a_goes a_rowGoes a_mark a_count a_colour o_5.2 v_columns v_needed v_rows v_cubes o_7.2.1 v_taken v_chosen v_nodes v_found v_isSpent v_told v_kept v_turns v_toldNodes v_cube o_7.2.2) hP hD [0, 3, 4] [1, 2] rfl rfl (by decide) (by decide) hk1 hFc hP1 hD1
    generalize H1 = H at hP hS ⊢
    have hP : va_P (dC, dI) vwCl (ws_X5_lay cB cI cJ cZ a_this a_bits a_colours a_cube a_laid a_times a_takes a_choice a_isChosen a_column a_next a_barredAt a_ways a_own a_goes a_rowGoes a_mark a_count a_colour o_5.2 v_columns v_needed v_rows v_cubes o_7.2.1 v_taken v_chosen v_nodes v_found v_isSpent v_told v_kept v_turns v_toldNodes v_bits v_colours v_cube o_7.2.2) H := hP.sub [2, 0, 1, 3, 4] rfl
    have hD : va_D A (ws_X5_lay cB cI cJ cZ a_this a_bits a_colours a_cube a_laid a_times a_takes a_choice a_isChosen a_column a_next a_barredAt a_ways a_own a_goes a_rowGoes a_mark a_count a_colour o_5.2 v_columns v_needed v_rows v_cubes o_7.2.1 v_taken v_chosen v_nodes v_found v_isSpent v_told v_kept v_turns v_toldNodes v_bits v_colours v_cube o_7.2.2) := hD.sub [2, 0, 1, 3, 4] (by decide) rfl
    refine lv_if_eq (tgt := 158) hx hb dX5_lay_141 (by decide) (fun c_8 => ?_) (fun c_8 => ?_)
    · replace hf := (if_pos c_8).symm.trans hf
      exact w_X5_lay_158 C0 hK o_5.2 v_rows v_cubes o_7.2.1 v_kept v_bits v_colours o_7.2.2 hf _ _ hP hD hS ls (lv_sub hl [] rfl)
    · replace hf := (if_neg c_8).symm.trans hf
      refine lv_aload_n hx hb dX5_lay_144 rfl (lv_at hl 0 rfl) ?_
      refine va_get (D := (dC, dI)) (ci := 6) (v := .int v_rows) (C := RX5) (T := TX5) (N := 33) hx hb hts in_X5_lay_X5 hown hK hP 0 rfl rfl 4 (by decide) (hts (.fieldLink RX5 76 "LinkedCoversModel" "rows" "I") lk_X5_lay_f76) (fun _ h9 => h9) rfl dX5_lay_145 ?_
      refine lv_aload_n hx hb dX5_lay_148 rfl (lv_at hl 0 rfl) ?_
      refine va_get (D := (dC, dI)) (ci := 6) (v := .int o_7.2.1) (C := RX5) (T := TX5) (N := 33) hx hb hts in_X5_lay_X5 hown hK hP 0 rfl rfl 10 (by decide) (hts (.fieldLink RX5 115 "LinkedCoversModel" "placements" "I") lk_X5_lay_f115) (fun _ h9 => h9) rfl dX5_lay_149 ?_
      refine lv_iadd hx hb dX5_lay_152 ?_
      refine lv_bipush (v := 60) hx hb dX5_lay_153 (by decide) ?_
      refine lv_icmp_le (tgt := 160) hx hb dX5_lay_155 (by decide) (fun c_9 => ?_) (fun c_9 => ?_)
      · replace hf := (if_pos c_9).symm.trans hf
        refine lv_iconst (v := 0) hx hb dX5_lay_160 (by decide) ?_
        refine lv_istore (lv' := [(6, .int (0 : Int32)), (0, .ref a_this), (1, .int x1), (2, .int x2), (3, .int x3), (4, .int x4), (5, .int x5)]) hx hb dX5_lay_161 hl (by decide) rfl (fun ls hl => ?_)
        exact w_X5_lay_163 C0 hK 1000000 o_5.2 v_rows v_cubes o_7.2.1 v_kept v_bits v_colours o_7.2.2 x5 (0 : Int32) hf _ _ hP hD hS ls (lv_sub hl [1, 6, 0] rfl)
      · replace hf := (if_neg c_9).symm.trans hf
        exact w_X5_lay_158 C0 hK o_5.2 v_rows v_cubes o_7.2.1 v_kept v_bits v_colours o_7.2.2 hf _ _ hP hD hS ls (lv_sub hl [] rfl)
  · replace hf := (if_neg c_6).symm.trans hf
    refine lv_iconst (v := 0) hx hb dX5_lay_130 (by decide) ?_
    have h9 := Option.some.inj hf
    have h8 := congrArg Prod.fst h9
    have h7 := congrArg Prod.snd h9
    exact W.iret (v := (0 : Int32)) hx hb hr (fun t ht hW => ⟨⟨(0 : Int32), (o_5.2, v_rows, v_cubes, v_placements, v_kept, v_bits, v_colours, v_laid), rfl, ⟨h8, h7⟩, by rw [ht]; exact hP, va_K.moved hW.alike hK, hD⟩, hS.F ht⟩) hS.2.2 dX5_lay_131
set_option maxHeartbeats 4000000 in
set_option maxRecDepth 100000 in
theorem w_X5_lay_123 {p : Program} {l : Launch} {e : Env} {s : State} {m : MethodId} {args : Array Value} {below : List Frame} {meth : Method} {c : Code} {A : Nat → Prop} {dC : Nat → ClassId} {dI : Nat → Nat → Nat} {cB cI cJ cZ : ClassId} {a_this a_bits a_colours a_cube a_laid a_times a_takes a_choice a_isChosen a_column a_next a_barredAt a_ways a_own a_goes a_rowGoes a_mark a_count a_colour : Nat} {v_columns : Int32} {v_needed : Int32} {v_taken : Int32} {v_chosen : Int32} {v_nodes : Int32} {v_found : Int32} {v_isSpent : Int32} {v_told : Int32} {v_turns : Int32} {v_toldNodes : Int32} {v_cube : (Nat → Int32)} {out : Int32 × Int32 × Int32 × Int32 × Int32 × Int32 × (Nat → Int32) × (Nat → Int32) × (Nat → Int32)} (C0 : Cx RX5 cX5_lay (some .int) 7 wsX5_lay p s m args meth c A) (hK : va_K (dC, dI) vwCl (tysG cB cI cJ cZ) s)  : g_X5_lay_123 p l e s m args below meth c A dC dI cB cI cJ cZ a_this a_bits a_colours a_cube a_laid a_times a_takes a_choice a_isChosen a_column a_next a_barredAt a_ways a_own a_goes a_rowGoes a_mark a_count a_colour v_columns v_needed v_taken v_chosen v_nodes v_found v_isSpent v_told v_turns v_toldNodes v_cube out (f_X5_lay_123 v_columns v_taken v_cube ) := by
  obtain ⟨hx, hb, hr, hml, hown, hts, hlocks, hA⟩ := id C0
  intro v_thrown v_rows v_cubes v_placements v_kept v_bits v_colours v_laid x1 x2 x3 x4 x5 y0 hf H locs hP hD hS ls hl
  replace hf : ((f_X5_lay_124 v_columns v_taken v_cube v_thrown v_rows v_cubes v_placements v_kept v_bits v_colours v_laid x1 x2 x3 x4 x5 (0 : Int32) y0) : Option (Int32 × Int32 × Int32 × Int32 × Int32 × Int32 × (Nat → Int32) × (Nat → Int32) × (Nat → Int32))) = some out := hf
  refine lv_iconst (v := 0) hx hb dX5_lay_123 (by decide) ?_
  exact w_X5_lay_124 C0 hK v_thrown v_rows v_cubes v_placements v_kept v_bits v_colours v_laid x1 x2 x3 x4 x5 (0 : Int32) y0 hf _ _ hP hD hS ls (lv_sub hl [0, 1, 2, 3, 4, 5] rfl)
set_option maxHeartbeats 4000000 in
set_option maxRecDepth 100000 in
theorem w_X5_lay_22 {p : Program} {l : Launch} {e : Env} {s : State} {m : MethodId} {args : Array Value} {below : List Frame} {meth : Method} {c : Code} {A : Nat → Prop} {dC : Nat → ClassId} {dI : Nat → Nat → Nat} {cB cI cJ cZ : ClassId} {a_this a_bits a_colours a_cube a_laid a_times a_takes a_choice a_isChosen a_column a_next a_barredAt a_ways a_own a_goes a_rowGoes a_mark a_count a_colour : Nat} {v_columns : Int32} {v_needed : Int32} {v_taken : Int32} {v_chosen : Int32} {v_nodes : Int32} {v_found : Int32} {v_isSpent : Int32} {v_told : Int32} {v_turns : Int32} {v_toldNodes : Int32} {v_cube : (Nat → Int32)} {out : Int32 × Int32 × Int32 × Int32 × Int32 × Int32 × (Nat → Int32) × (Nat → Int32) × (Nat → Int32)} (C0 : Cx RX5 cX5_lay (some .int) 7 wsX5_lay p s m args meth c A) (hK : va_K (dC, dI) vwCl (tysG cB cI cJ cZ) s)  : g_X5_lay_22 p l e s m args below meth c A dC dI cB cI cJ cZ a_this a_bits a_colours a_cube a_laid a_times a_takes a_choice a_isChosen a_column a_next a_barredAt a_ways a_own a_goes a_rowGoes a_mark a_count a_colour v_columns v_needed v_taken v_chosen v_nodes v_found v_isSpent v_told v_turns v_toldNodes v_cube out (f_X5_lay_22 v_columns v_taken v_cube ) := by
  obtain ⟨hx, hb, hr, hml, hown, hts, hlocks, hA⟩ := id C0
  intro v_thrown v_rows v_cubes v_placements v_kept v_bits v_colours v_laid x1 x2 x3 x4 x5 y0 y1 hf H locs hP hD hS ls hl
  replace hf : (((f_X5_throwsIf v_thrown y1 y0).bind (fun o_10 =>
  if o_10.1 = 0 then
  (if x1 < (1 : Int32) then
  (f_X5_lay_100 v_columns v_taken v_cube o_10.2 v_rows v_cubes v_placements v_kept v_bits v_colours v_laid)
  else
  (if x2 < (1 : Int32) then
  (f_X5_lay_100 v_columns v_taken v_cube o_10.2 v_rows v_cubes v_placements v_kept v_bits v_colours v_laid)
  else
  (if x3 < (1 : Int32) then
  (f_X5_lay_100 v_columns v_taken v_cube o_10.2 v_rows v_cubes v_placements v_kept v_bits v_colours v_laid)
  else
  (if (24 : Int32) < x1 then
  (f_X5_lay_100 v_columns v_taken v_cube o_10.2 v_rows v_cubes v_placements v_kept v_bits v_colours v_laid)
  else
  (if (24 : Int32) < x2 then
  (f_X5_lay_100 v_columns v_taken v_cube o_10.2 v_rows v_cubes v_placements v_kept v_bits v_colours v_laid)
  else
  (if (24 : Int32) < x3 then
  (f_X5_lay_100 v_columns v_taken v_cube o_10.2 v_rows v_cubes v_placements v_kept v_bits v_colours v_laid)
  else
  (if v_columns < ((x1 * x2) * x3) then
  (f_X5_lay_100 v_columns v_taken v_cube o_10.2 v_rows v_cubes v_placements v_kept v_bits v_colours v_laid)
  else
  (if x4 < 0 then
  (f_X5_lay_100 v_columns v_taken v_cube o_10.2 v_rows v_cubes v_placements v_kept v_bits v_colours v_laid)
  else
  (if (3 : Int32) < x4 then
  (f_X5_lay_100 v_columns v_taken v_cube o_10.2 v_rows v_cubes v_placements v_kept v_bits v_colours v_laid)
  else
  (if v_cubes = 0 then
  (f_X5_lay_100 v_columns v_taken v_cube o_10.2 v_rows v_cubes v_placements v_kept v_bits v_colours v_laid)
  else
  (if v_taken ≤ 0 then
  (if x5 < 0 then
  (f_X5_lay_123 v_columns v_taken v_cube o_10.2 v_rows v_cubes v_placements v_kept v_bits v_colours v_laid x1 x2 x3 x4 x5 (2 : Int32))
  else
  (if ((x1 * x2) * x3) ≤ x5 then
  (f_X5_lay_123 v_columns v_taken v_cube o_10.2 v_rows v_cubes v_placements v_kept v_bits v_colours v_laid x1 x2 x3 x4 x5 (2 : Int32))
  else
  (f_X5_lay_124 v_columns v_taken v_cube o_10.2 v_rows v_cubes v_placements v_kept v_bits v_colours v_laid x1 x2 x3 x4 x5 (1 : Int32) (2 : Int32))))
  else
  (f_X5_lay_100 v_columns v_taken v_cube o_10.2 v_rows v_cubes v_placements v_kept v_bits v_colours v_laid))))))))))))
  else
  (some (((0 : Int32), (o_10.2, v_rows, v_cubes, v_placements, v_kept, v_bits, v_colours, v_laid)))))) : Option (Int32 × Int32 × Int32 × Int32 × Int32 × Int32 × (Nat → Int32) × (Nat → Int32) × (Nat → Int32))) = some out := hf
  obtain ⟨o_10, ho_10, hf⟩ := gd_bd hf
  have hPc := hP.sub (ws' := ws_X5_throwsIf cB cI cJ cZ a_this a_times a_bits a_colours a_cube a_laid a_takes a_choice a_isChosen a_column a_next a_barredAt a_ways a_own a_goes a_rowGoes a_mark a_count a_colour v_thrown v_columns v_needed v_rows v_cubes v_placements v_taken v_chosen v_nodes v_found v_isSpent v_told v_kept v_turns v_toldNodes) [0] rfl
  have hDc := hD.sub (ws' := ws_X5_throwsIf cB cI cJ cZ a_this a_times a_bits a_colours a_cube a_laid a_takes a_choice a_isChosen a_column a_next a_barredAt a_ways a_own a_goes a_rowGoes a_mark a_count a_colour v_thrown v_columns v_needed v_rows v_cubes v_placements v_taken v_chosen v_nodes v_found v_isSpent v_told v_kept v_turns v_toldNodes) [0] (by decide) rfl
  have hFc := va_free (wc := ws_X5_throwsIf cB cI cJ cZ a_this a_times a_bits a_colours a_cube a_laid a_takes a_choice a_isChosen a_column a_next a_barredAt a_ways a_own a_goes a_rowGoes a_mark a_count a_colour v_thrown v_columns v_needed v_rows v_cubes v_placements v_taken v_chosen v_nodes v_found v_isSpent v_told v_kept v_turns v_toldNodes) hD hS hA [0] rfl
  refine va_calli (va_runV (As := [.int y1, .int y0]) (rest := []) ⟨hx, hb, hml, hown, hts⟩ (c_X5_throwsIf l dC dI cB cI cJ cZ a_this a_times a_bits a_colours a_cube a_laid a_takes a_choice a_isChosen a_column a_next a_barredAt a_ways a_own a_goes a_rowGoes a_mark a_count a_colour H.size v_thrown v_columns v_needed v_rows v_cubes v_placements v_taken v_chosen v_nodes v_found v_isSpent v_told v_kept v_turns v_toldNodes y1 y0 o_10 ho_10) (cwV 2 hts gX5_lay_X5_throwsIf rfl rfl rfl ⟨rfl, nd_X5_throwsIf⟩ ⟨Nat.le_of_ble_eq_true rfl, Nat.le_of_ble_eq_true rfl⟩) ⟨fun a U g mk q => by obtain ⟨q0, q1, qP, qK, qD⟩ := q; exact ⟨q0, q1, qP, va_K.moved (u := U) (U := U.calling g mk a) (Vm.Alike.refl U.vm) qK, qD⟩, va_recv hK hPc (ci := 6) (q0 := 0) rfl rfl, fun U hU hW => ⟨rfl, by rw [hU], by rw [hU]; exact hPc, va_K.moved hW.alike hK, hDc.weaken (fun _ _ _ _ => trivial)⟩⟩ rfl rfl hl.1 rfl (lv_room (Nat.le_of_ble_eq_true rfl)) dX5_lay_22 ⟨Nat.le_of_ble_eq_true rfl, Nat.le_of_ble_eq_true rfl⟩) hS (fun q _ h => hFc q h) hFc (fun r_10 u_10 t H1 locs ht hvm hw hB hz1 hk1 hS => ?_)
  obtain ⟨rfl, rfl⟩ := hw
  obtain ⟨hP1, hK1, hD1⟩ := hB
  rw [ht] at hP1
  obtain ⟨hP, hD⟩ := va_join (wr := [(a_bits, .inl (cI, 60, .inl v_bits)), (a_colours, .inl (cI, 1440, .inl v_colours)), (a_cube, .inl (cI, 7, .inl v_cube)), (a_laid, .inl (cI, 60, .inl v_laid))]) (w1 := ws_X5_throwsIf cB cI cJ cZ a_this a_times a_bits a_colours a_cube a_laid a_takes a_choice a_isChosen a_column a_next a_barredAt a_ways a_own a_goes a_rowGoes a_mark a_count a_colour o_10.2 v_columns v_needed v_rows v_cubes v_placements v_taken v_chosen v_nodes v_found v_isSpent v_told v_kept v_turns v_toldNodes) hP hD [0] [1, 2, 3, 4] rfl rfl (by decide) (by decide) hk1 hFc hP1 hD1
  generalize H1 = H at hP hS ⊢
  have hP : va_P (dC, dI) vwCl (ws_X5_lay cB cI cJ cZ a_this a_bits a_colours a_cube a_laid a_times a_takes a_choice a_isChosen a_column a_next a_barredAt a_ways a_own a_goes a_rowGoes a_mark a_count a_colour o_10.2 v_columns v_needed v_rows v_cubes v_placements v_taken v_chosen v_nodes v_found v_isSpent v_told v_kept v_turns v_toldNodes v_bits v_colours v_cube v_laid) H := hP.sub [4, 0, 1, 2, 3] rfl
  have hD : va_D A (ws_X5_lay cB cI cJ cZ a_this a_bits a_colours a_cube a_laid a_times a_takes a_choice a_isChosen a_column a_next a_barredAt a_ways a_own a_goes a_rowGoes a_mark a_count a_colour o_10.2 v_columns v_needed v_rows v_cubes v_placements v_taken v_chosen v_nodes v_found v_isSpent v_told v_kept v_turns v_toldNodes v_bits v_colours v_cube v_laid) := hD.sub [4, 0, 1, 2, 3] (by decide) rfl
  refine lv_if_eq (tgt := 30) hx hb dX5_lay_25 (by decide) (fun c_11 => ?_) (fun c_11 => ?_)
  · replace hf := (if_pos c_11).symm.trans hf
    refine lv_iload_n hx hb dX5_lay_30 rfl (lv_at hl 1 rfl) ?_
    refine lv_iconst (v := 1) hx hb dX5_lay_31 (by decide) ?_
    refine lv_icmp_lt (tgt := 100) hx hb dX5_lay_32 (by decide) (fun c_12 => ?_) (fun c_12 => ?_)
    · replace hf := (if_pos c_12).symm.trans hf
      exact w_X5_lay_100 C0 hK o_10.2 v_rows v_cubes v_placements v_kept v_bits v_colours v_laid hf _ _ hP hD hS ls (lv_sub hl [] rfl)
    · replace hf := (if_neg c_12).symm.trans hf
      refine lv_iload_n hx hb dX5_lay_35 rfl (lv_at hl 2 rfl) ?_
      refine lv_iconst (v := 1) hx hb dX5_lay_36 (by decide) ?_
      refine lv_icmp_lt (tgt := 100) hx hb dX5_lay_37 (by decide) (fun c_13 => ?_) (fun c_13 => ?_)
      · replace hf := (if_pos c_13).symm.trans hf
        exact w_X5_lay_100 C0 hK o_10.2 v_rows v_cubes v_placements v_kept v_bits v_colours v_laid hf _ _ hP hD hS ls (lv_sub hl [] rfl)
      · replace hf := (if_neg c_13).symm.trans hf
        refine lv_iload_n hx hb dX5_lay_40 rfl (lv_at hl 3 rfl) ?_
        refine lv_iconst (v := 1) hx hb dX5_lay_41 (by decide) ?_
        refine lv_icmp_lt (tgt := 100) hx hb dX5_lay_42 (by decide) (fun c_14 => ?_) (fun c_14 => ?_)
        · replace hf := (if_pos c_14).symm.trans hf
          exact w_X5_lay_100 C0 hK o_10.2 v_rows v_cubes v_placements v_kept v_bits v_colours v_laid hf _ _ hP hD hS ls (lv_sub hl [] rfl)
        · replace hf := (if_neg c_14).symm.trans hf
          refine lv_iload_n hx hb dX5_lay_45 rfl (lv_at hl 1 rfl) ?_
          refine lv_bipush (v := 24) hx hb dX5_lay_46 (by decide) ?_
          refine lv_icmp_gt (tgt := 100) hx hb dX5_lay_48 (by decide) (fun c_15 => ?_) (fun c_15 => ?_)
          · replace hf := (if_pos c_15).symm.trans hf
            exact w_X5_lay_100 C0 hK o_10.2 v_rows v_cubes v_placements v_kept v_bits v_colours v_laid hf _ _ hP hD hS ls (lv_sub hl [] rfl)
          · replace hf := (if_neg c_15).symm.trans hf
            refine lv_iload_n hx hb dX5_lay_51 rfl (lv_at hl 2 rfl) ?_
            refine lv_bipush (v := 24) hx hb dX5_lay_52 (by decide) ?_
            refine lv_icmp_gt (tgt := 100) hx hb dX5_lay_54 (by decide) (fun c_16 => ?_) (fun c_16 => ?_)
            · replace hf := (if_pos c_16).symm.trans hf
              exact w_X5_lay_100 C0 hK o_10.2 v_rows v_cubes v_placements v_kept v_bits v_colours v_laid hf _ _ hP hD hS ls (lv_sub hl [] rfl)
            · replace hf := (if_neg c_16).symm.trans hf
              refine lv_iload_n hx hb dX5_lay_57 rfl (lv_at hl 3 rfl) ?_
              refine lv_bipush (v := 24) hx hb dX5_lay_58 (by decide) ?_
              refine lv_icmp_gt (tgt := 100) hx hb dX5_lay_60 (by decide) (fun c_17 => ?_) (fun c_17 => ?_)
              · replace hf := (if_pos c_17).symm.trans hf
                exact w_X5_lay_100 C0 hK o_10.2 v_rows v_cubes v_placements v_kept v_bits v_colours v_laid hf _ _ hP hD hS ls (lv_sub hl [] rfl)
              · replace hf := (if_neg c_17).symm.trans hf
                refine lv_iload_n hx hb dX5_lay_63 rfl (lv_at hl 1 rfl) ?_
                refine lv_iload_n hx hb dX5_lay_64 rfl (lv_at hl 2 rfl) ?_
                refine lv_imul hx hb dX5_lay_65 ?_
                refine lv_iload_n hx hb dX5_lay_66 rfl (lv_at hl 3 rfl) ?_
                refine lv_imul hx hb dX5_lay_67 ?_
                refine lv_aload_n hx hb dX5_lay_68 rfl (lv_at hl 0 rfl) ?_
                refine va_get (D := (dC, dI)) (ci := 6) (v := .int v_columns) (C := RX5) (T := TX5) (N := 33) hx hb hts in_X5_lay_X5 hown hK hP 0 rfl rfl 1 (by decide) (hts (.fieldLink RX5 66 "LinkedCoversModel" "columns" "I") lk_X5_lay_f66) (fun _ h9 => h9) rfl dX5_lay_69 ?_
                refine lv_icmp_gt (tgt := 100) hx hb dX5_lay_72 (by decide) (fun c_18 => ?_) (fun c_18 => ?_)
                · replace hf := (if_pos c_18).symm.trans hf
                  exact w_X5_lay_100 C0 hK o_10.2 v_rows v_cubes v_placements v_kept v_bits v_colours v_laid hf _ _ hP hD hS ls (lv_sub hl [] rfl)
                · replace hf := (if_neg c_18).symm.trans hf
                  refine lv_iload hx hb dX5_lay_75 (lv_at hl 4 rfl) ?_
                  refine lv_if_lt (tgt := 100) hx hb dX5_lay_77 (by decide) (fun c_19 => ?_) (fun c_19 => ?_)
                  · replace hf := (if_pos c_19).symm.trans hf
                    exact w_X5_lay_100 C0 hK o_10.2 v_rows v_cubes v_placements v_kept v_bits v_colours v_laid hf _ _ hP hD hS ls (lv_sub hl [] rfl)
                  · replace hf := (if_neg c_19).symm.trans hf
                    refine lv_iload hx hb dX5_lay_80 (lv_at hl 4 rfl) ?_
                    refine lv_iconst (v := 3) hx hb dX5_lay_82 (by decide) ?_
                    refine lv_icmp_gt (tgt := 100) hx hb dX5_lay_83 (by decide) (fun c_20 => ?_) (fun c_20 => ?_)
                    · replace hf := (if_pos c_20).symm.trans hf
                      exact w_X5_lay_100 C0 hK o_10.2 v_rows v_cubes v_placements v_kept v_bits v_colours v_laid hf _ _ hP hD hS ls (lv_sub hl [] rfl)
                    · replace hf := (if_neg c_20).symm.trans hf
                      refine lv_aload_n hx hb dX5_lay_86 rfl (lv_at hl 0 rfl) ?_
                      refine va_get (D := (dC, dI)) (ci := 6) (v := .int v_cubes) (C := RX5) (T := TX5) (N := 33) hx hb hts in_X5_lay_X5 hown hK hP 0 rfl rfl 7 (by decide) (hts (.fieldLink RX5 104 "LinkedCoversModel" "cubes" "I") lk_X5_lay_f104) (fun _ h9 => h9) rfl dX5_lay_87 ?_
                      refine lv_if_eq (tgt := 100) hx hb dX5_lay_90 (by decide) (fun c_21 => ?_) (fun c_21 => ?_)
                      · replace hf := (if_pos c_21).symm.trans hf
                        exact w_X5_lay_100 C0 hK o_10.2 v_rows v_cubes v_placements v_kept v_bits v_colours v_laid hf _ _ hP hD hS ls (lv_sub hl [] rfl)
                      · replace hf := (if_neg c_21).symm.trans hf
                        refine lv_aload_n hx hb dX5_lay_93 rfl (lv_at hl 0 rfl) ?_
                        refine va_get (D := (dC, dI)) (ci := 6) (v := .int v_taken) (C := RX5) (T := TX5) (N := 33) hx hb hts in_X5_lay_X5 hown hK hP 0 rfl rfl 11 (by decide) (hts (.fieldLink RX5 87 "LinkedCoversModel" "taken" "I") lk_X5_lay_f87) (fun _ h9 => h9) rfl dX5_lay_94 ?_
                        refine lv_if_le (tgt := 102) hx hb dX5_lay_97 (by decide) (fun c_22 => ?_) (fun c_22 => ?_)
                        · replace hf := (if_pos c_22).symm.trans hf
                          refine lv_aload_n hx hb dX5_lay_102 rfl (lv_at hl 0 rfl) ?_
                          refine lv_iconst (v := 2) hx hb dX5_lay_103 (by decide) ?_
                          refine lv_iload hx hb dX5_lay_104 (lv_at hl 5 rfl) ?_
                          refine lv_if_lt (tgt := 123) hx hb dX5_lay_106 (by decide) (fun c_23 => ?_) (fun c_23 => ?_)
                          · replace hf := (if_pos c_23).symm.trans hf
                            exact w_X5_lay_123 C0 hK o_10.2 v_rows v_cubes v_placements v_kept v_bits v_colours v_laid x1 x2 x3 x4 x5 (2 : Int32) hf _ _ hP hD hS ls (lv_sub hl [0, 1, 2, 3, 4, 5] rfl)
                          · replace hf := (if_neg c_23).symm.trans hf
                            refine lv_iload hx hb dX5_lay_109 (lv_at hl 5 rfl) ?_
                            refine lv_iload_n hx hb dX5_lay_111 rfl (lv_at hl 1 rfl) ?_
                            refine lv_iload_n hx hb dX5_lay_112 rfl (lv_at hl 2 rfl) ?_
                            refine lv_imul hx hb dX5_lay_113 ?_
                            refine lv_iload_n hx hb dX5_lay_114 rfl (lv_at hl 3 rfl) ?_
                            refine lv_imul hx hb dX5_lay_115 ?_
                            refine lv_icmp_ge (tgt := 123) hx hb dX5_lay_116 (by decide) (fun c_24 => ?_) (fun c_24 => ?_)
                            · replace hf := (if_pos c_24).symm.trans hf
                              exact w_X5_lay_123 C0 hK o_10.2 v_rows v_cubes v_placements v_kept v_bits v_colours v_laid x1 x2 x3 x4 x5 (2 : Int32) hf _ _ hP hD hS ls (lv_sub hl [0, 1, 2, 3, 4, 5] rfl)
                            · replace hf := (if_neg c_24).symm.trans hf
                              refine lv_iconst (v := 1) hx hb dX5_lay_119 (by decide) ?_
                              refine lv_goto (tgt := 124) hx hb dX5_lay_120 (by decide) ?_
                              exact w_X5_lay_124 C0 hK o_10.2 v_rows v_cubes v_placements v_kept v_bits v_colours v_laid x1 x2 x3 x4 x5 (1 : Int32) (2 : Int32) hf _ _ hP hD hS ls (lv_sub hl [0, 1, 2, 3, 4, 5] rfl)
                        · replace hf := (if_neg c_22).symm.trans hf
                          exact w_X5_lay_100 C0 hK o_10.2 v_rows v_cubes v_placements v_kept v_bits v_colours v_laid hf _ _ hP hD hS ls (lv_sub hl [] rfl)
  · replace hf := (if_neg c_11).symm.trans hf
    refine lv_iconst (v := 0) hx hb dX5_lay_28 (by decide) ?_
    have h9 := Option.some.inj hf
    have h8 := congrArg Prod.fst h9
    have h7 := congrArg Prod.snd h9
    exact W.iret (v := (0 : Int32)) hx hb hr (fun t ht hW => ⟨⟨(0 : Int32), (o_10.2, v_rows, v_cubes, v_placements, v_kept, v_bits, v_colours, v_laid), rfl, ⟨h8, h7⟩, by rw [ht]; exact hP, va_K.moved hW.alike hK, hD⟩, hS.F ht⟩) hS.2.2 dX5_lay_29
set_option maxHeartbeats 4000000 in
set_option maxRecDepth 100000 in
theorem w_X5_lay_21 {p : Program} {l : Launch} {e : Env} {s : State} {m : MethodId} {args : Array Value} {below : List Frame} {meth : Method} {c : Code} {A : Nat → Prop} {dC : Nat → ClassId} {dI : Nat → Nat → Nat} {cB cI cJ cZ : ClassId} {a_this a_bits a_colours a_cube a_laid a_times a_takes a_choice a_isChosen a_column a_next a_barredAt a_ways a_own a_goes a_rowGoes a_mark a_count a_colour : Nat} {v_columns : Int32} {v_needed : Int32} {v_taken : Int32} {v_chosen : Int32} {v_nodes : Int32} {v_found : Int32} {v_isSpent : Int32} {v_told : Int32} {v_turns : Int32} {v_toldNodes : Int32} {v_cube : (Nat → Int32)} {out : Int32 × Int32 × Int32 × Int32 × Int32 × Int32 × (Nat → Int32) × (Nat → Int32) × (Nat → Int32)} (C0 : Cx RX5 cX5_lay (some .int) 7 wsX5_lay p s m args meth c A) (hK : va_K (dC, dI) vwCl (tysG cB cI cJ cZ) s)  : g_X5_lay_21 p l e s m args below meth c A dC dI cB cI cJ cZ a_this a_bits a_colours a_cube a_laid a_times a_takes a_choice a_isChosen a_column a_next a_barredAt a_ways a_own a_goes a_rowGoes a_mark a_count a_colour v_columns v_needed v_taken v_chosen v_nodes v_found v_isSpent v_told v_turns v_toldNodes v_cube out (f_X5_lay_21 v_columns v_taken v_cube ) := by
  obtain ⟨hx, hb, hr, hml, hown, hts, hlocks, hA⟩ := id C0
  intro v_thrown v_rows v_cubes v_placements v_kept v_bits v_colours v_laid x1 x2 x3 x4 x5 y0 hf H locs hP hD hS ls hl
  replace hf : ((f_X5_lay_22 v_columns v_taken v_cube v_thrown v_rows v_cubes v_placements v_kept v_bits v_colours v_laid x1 x2 x3 x4 x5 (0 : Int32) y0) : Option (Int32 × Int32 × Int32 × Int32 × Int32 × Int32 × (Nat → Int32) × (Nat → Int32) × (Nat → Int32))) = some out := hf
  refine lv_iconst (v := 0) hx hb dX5_lay_21 (by decide) ?_
  exact w_X5_lay_22 C0 hK v_thrown v_rows v_cubes v_placements v_kept v_bits v_colours v_laid x1 x2 x3 x4 x5 (0 : Int32) y0 hf _ _ hP hD hS ls (lv_sub hl [0, 1, 2, 3, 4, 5] rfl)
set_option maxHeartbeats 4000000 in
set_option maxRecDepth 100000 in
theorem w_X5_lay_0 {p : Program} {l : Launch} {e : Env} {s : State} {m : MethodId} {args : Array Value} {below : List Frame} {meth : Method} {c : Code} {A : Nat → Prop} {dC : Nat → ClassId} {dI : Nat → Nat → Nat} {cB cI cJ cZ : ClassId} {a_this a_bits a_colours a_cube a_laid a_times a_takes a_choice a_isChosen a_column a_next a_barredAt a_ways a_own a_goes a_rowGoes a_mark a_count a_colour : Nat} {v_columns : Int32} {v_needed : Int32} {v_taken : Int32} {v_chosen : Int32} {v_nodes : Int32} {v_found : Int32} {v_isSpent : Int32} {v_told : Int32} {v_turns : Int32} {v_toldNodes : Int32} {v_cube : (Nat → Int32)} {out : Int32 × Int32 × Int32 × Int32 × Int32 × Int32 × (Nat → Int32) × (Nat → Int32) × (Nat → Int32)} (C0 : Cx RX5 cX5_lay (some .int) 7 wsX5_lay p s m args meth c A) (hK : va_K (dC, dI) vwCl (tysG cB cI cJ cZ) s)  : g_X5_lay_0 p l e s m args below meth c A dC dI cB cI cJ cZ a_this a_bits a_colours a_cube a_laid a_times a_takes a_choice a_isChosen a_column a_next a_barredAt a_ways a_own a_goes a_rowGoes a_mark a_count a_colour v_columns v_needed v_taken v_chosen v_nodes v_found v_isSpent v_told v_turns v_toldNodes v_cube out (f_X5_lay v_columns v_taken v_cube ) := by
  obtain ⟨hx, hb, hr, hml, hown, hts, hlocks, hA⟩ := id C0
  intro v_thrown v_rows v_cubes v_placements v_kept v_bits v_colours v_laid x1 x2 x3 x4 x5 hf H locs hP hD hS ls hl
  replace hf : ((if x5 = (-1 : Int32) then
  (f_X5_lay_21 v_columns v_taken v_cube v_thrown v_rows v_cubes v_placements v_kept v_bits v_colours v_laid x1 x2 x3 x4 x5 (1 : Int32))
  else
  ((f_X5_isColumn v_columns x5).bind (fun o_26 =>
  if o_26.1 = 0 then
  (f_X5_lay_22 v_columns v_taken v_cube v_thrown v_rows v_cubes v_placements v_kept v_bits v_colours v_laid x1 x2 x3 x4 x5 (1 : Int32) (1 : Int32))
  else
  (f_X5_lay_21 v_columns v_taken v_cube v_thrown v_rows v_cubes v_placements v_kept v_bits v_colours v_laid x1 x2 x3 x4 x5 (1 : Int32))))) : Option (Int32 × Int32 × Int32 × Int32 × Int32 × Int32 × (Nat → Int32) × (Nat → Int32) × (Nat → Int32))) = some out := hf
  refine lv_aload_n hx hb dX5_lay_0 rfl (lv_at hl 0 rfl) ?_
  refine lv_iconst (v := 1) hx hb dX5_lay_1 (by decide) ?_
  refine lv_iload hx hb dX5_lay_2 (lv_at hl 5 rfl) ?_
  refine lv_iconst (v := -1) hx hb dX5_lay_4 (by decide) ?_
  refine lv_icmp_eq (tgt := 21) hx hb dX5_lay_5 (by decide) (fun c_25 => ?_) (fun c_25 => ?_)
  · replace hf := (if_pos c_25).symm.trans hf
    exact w_X5_lay_21 C0 hK v_thrown v_rows v_cubes v_placements v_kept v_bits v_colours v_laid x1 x2 x3 x4 x5 (1 : Int32) hf _ _ hP hD hS ls (lv_sub hl [0, 1, 2, 3, 4, 5] rfl)
  · replace hf := (if_neg c_25).symm.trans hf
    refine lv_aload_n hx hb dX5_lay_8 rfl (lv_at hl 0 rfl) ?_
    refine lv_iload hx hb dX5_lay_9 (lv_at hl 5 rfl) ?_
    obtain ⟨o_26, ho_26, hf⟩ := gd_bd hf
    have hPc := hP.sub (ws' := ws_X5_isColumn cB cI cJ cZ a_this a_times a_bits a_colours a_cube a_laid a_takes a_choice a_isChosen a_column a_next a_barredAt a_ways a_own a_goes a_rowGoes a_mark a_count a_colour v_thrown v_columns v_needed v_rows v_cubes v_placements v_taken v_chosen v_nodes v_found v_isSpent v_told v_kept v_turns v_toldNodes) [0] rfl
    have hDc := hD.sub (ws' := ws_X5_isColumn cB cI cJ cZ a_this a_times a_bits a_colours a_cube a_laid a_takes a_choice a_isChosen a_column a_next a_barredAt a_ways a_own a_goes a_rowGoes a_mark a_count a_colour v_thrown v_columns v_needed v_rows v_cubes v_placements v_taken v_chosen v_nodes v_found v_isSpent v_told v_kept v_turns v_toldNodes) [0] (by decide) rfl
    have hFc := va_free (wc := ws_X5_isColumn cB cI cJ cZ a_this a_times a_bits a_colours a_cube a_laid a_takes a_choice a_isChosen a_column a_next a_barredAt a_ways a_own a_goes a_rowGoes a_mark a_count a_colour v_thrown v_columns v_needed v_rows v_cubes v_placements v_taken v_chosen v_nodes v_found v_isSpent v_told v_kept v_turns v_toldNodes) hD hS hA [0] rfl
    refine va_calli (va_runV (As := [.int x5]) (rest := [.int (1 : Int32), .ref a_this]) ⟨hx, hb, hml, hown, hts⟩ (c_X5_isColumn l dC dI cB cI cJ cZ a_this a_times a_bits a_colours a_cube a_laid a_takes a_choice a_isChosen a_column a_next a_barredAt a_ways a_own a_goes a_rowGoes a_mark a_count a_colour H.size v_thrown v_columns v_needed v_rows v_cubes v_placements v_taken v_chosen v_nodes v_found v_isSpent v_told v_kept v_turns v_toldNodes x5 o_26 ho_26) (cwV 1 hts gX5_lay_X5_isColumn rfl rfl rfl ⟨rfl, nd_X5_isColumn⟩ ⟨Nat.le_of_ble_eq_true rfl, Nat.le_of_ble_eq_true rfl⟩) ⟨fun a U g mk q => by obtain ⟨q0, q1, qP, qK, qD⟩ := q; exact ⟨q0, q1, qP, va_K.moved (u := U) (U := U.calling g mk a) (Vm.Alike.refl U.vm) qK, qD⟩, va_recv hK hPc (ci := 6) (q0 := 0) rfl rfl, fun U hU hW => ⟨rfl, by rw [hU], by rw [hU]; exact hPc, va_K.moved hW.alike hK, hDc.weaken (fun _ _ _ _ => trivial)⟩⟩ rfl rfl hl.1 rfl (lv_room (Nat.le_of_ble_eq_true rfl)) dX5_lay_11 ⟨Nat.le_of_ble_eq_true rfl, Nat.le_of_ble_eq_true rfl⟩) hS (fun q _ h => hFc q h) hFc (fun r_26 u_26 t H1 locs ht hvm hw hB hz1 hk1 hS => ?_)
    obtain ⟨rfl, rfl⟩ := hw
    obtain ⟨hP1, hK1, hD1⟩ := hB
    rw [ht] at hP1
    obtain ⟨hP, hD⟩ := va_join (wr := [(a_bits, .inl (cI, 60, .inl v_bits)), (a_colours, .inl (cI, 1440, .inl v_colours)), (a_cube, .inl (cI, 7, .inl v_cube)), (a_laid, .inl (cI, 60, .inl v_laid))]) (w1 := ws_X5_isColumn cB cI cJ cZ a_this a_times a_bits a_colours a_cube a_laid a_takes a_choice a_isChosen a_column a_next a_barredAt a_ways a_own a_goes a_rowGoes a_mark a_count a_colour v_thrown v_columns v_needed v_rows v_cubes v_placements v_taken v_chosen v_nodes v_found v_isSpent v_told v_kept v_turns v_toldNodes) hP hD [0] [1, 2, 3, 4] rfl rfl (by decide) (by decide) hk1 hFc hP1 hD1
    generalize H1 = H at hP hS ⊢
    have hP : va_P (dC, dI) vwCl (ws_X5_lay cB cI cJ cZ a_this a_bits a_colours a_cube a_laid a_times a_takes a_choice a_isChosen a_column a_next a_barredAt a_ways a_own a_goes a_rowGoes a_mark a_count a_colour v_thrown v_columns v_needed v_rows v_cubes v_placements v_taken v_chosen v_nodes v_found v_isSpent v_told v_kept v_turns v_toldNodes v_bits v_colours v_cube v_laid) H := hP.sub [4, 0, 1, 2, 3] rfl
    have hD : va_D A (ws_X5_lay cB cI cJ cZ a_this a_bits a_colours a_cube a_laid a_times a_takes a_choice a_isChosen a_column a_next a_barredAt a_ways a_own a_goes a_rowGoes a_mark a_count a_colour v_thrown v_columns v_needed v_rows v_cubes v_placements v_taken v_chosen v_nodes v_found v_isSpent v_told v_kept v_turns v_toldNodes v_bits v_colours v_cube v_laid) := hD.sub [4, 0, 1, 2, 3] (by decide) rfl
    refine lv_if_ne (tgt := 21) hx hb dX5_lay_14 (by decide) (fun c_27 => ?_) (fun c_27 => ?_)
    · replace hf := (if_neg c_27).symm.trans hf
      exact w_X5_lay_21 C0 hK v_thrown v_rows v_cubes v_placements v_kept v_bits v_colours v_laid x1 x2 x3 x4 x5 (1 : Int32) hf _ _ hP hD hS ls (lv_sub hl [0, 1, 2, 3, 4, 5] rfl)
    · replace hf := (if_pos c_27).symm.trans hf
      refine lv_iconst (v := 1) hx hb dX5_lay_17 (by decide) ?_
      refine lv_goto (tgt := 22) hx hb dX5_lay_18 (by decide) ?_
      exact w_X5_lay_22 C0 hK v_thrown v_rows v_cubes v_placements v_kept v_bits v_colours v_laid x1 x2 x3 x4 x5 (1 : Int32) (1 : Int32) hf _ _ hP hD hS ls (lv_sub hl [0, 1, 2, 3, 4, 5] rfl)
theorem nd_X5_lay : yX5_lay.cls ≠ "java/lang/invoke/MethodHandle" ∧ yX5_lay.cls ≠ "java/lang/invoke/VarHandle" ∧ (parseMethodDescriptor yX5_lay.desc).map (fun d => d.parameters.length) = some 5 := by decide +kernel
set_option maxHeartbeats 4000000 in
set_option maxRecDepth 100000 in
theorem c_X5_lay (l : Launch) (dC : Nat → ClassId) (dI : Nat → Nat → Nat) (cB cI cJ cZ : ClassId) (a_this a_bits a_colours a_cube a_laid a_times a_takes a_choice a_isChosen a_column a_next a_barredAt a_ways a_own a_goes a_rowGoes a_mark a_count a_colour : Nat) (sz : Nat) (v_thrown : Int32) (v_columns : Int32) (v_needed : Int32) (v_rows : Int32) (v_cubes : Int32) (v_placements : Int32) (v_taken : Int32) (v_chosen : Int32) (v_nodes : Int32) (v_found : Int32) (v_isSpent : Int32) (v_told : Int32) (v_kept : Int32) (v_turns : Int32) (v_toldNodes : Int32) (v_bits : (Nat → Int32)) (v_colours : (Nat → Int32)) (v_cube : (Nat → Int32)) (v_laid : (Nat → Int32)) (x1 : Int32) (x2 : Int32) (x3 : Int32) (x4 : Int32) (x5 : Int32) (out : Int32 × Int32 × Int32 × Int32 × Int32 × Int32 × (Nat → Int32) × (Nat → Int32) × (Nat → Int32)) (hf : f_X5_lay v_columns v_taken v_cube v_thrown v_rows v_cubes v_placements v_kept v_bits v_colours v_laid x1 x2 x3 x4 x5 = some out) : Met l yX5_lay wsX5_lay rm_X5_lay (va_Pc [.ref a_this, .int x1, .int x2, .int x3, .int x4, .int x5] (fun U => U.heap.size = sz ∧ va_P (dC, dI) vwCl (ws_X5_lay cB cI cJ cZ a_this a_bits a_colours a_cube a_laid a_times a_takes a_choice a_isChosen a_column a_next a_barredAt a_ways a_own a_goes a_rowGoes a_mark a_count a_colour v_thrown v_columns v_needed v_rows v_cubes v_placements v_taken v_chosen v_nodes v_found v_isSpent v_told v_kept v_turns v_toldNodes v_bits v_colours v_cube v_laid) U.heap ∧ va_K (dC, dI) vwCl (tysG cB cI cJ cZ) U ∧ va_D (fun _ => True) (ws_X5_lay cB cI cJ cZ a_this a_bits a_colours a_cube a_laid a_times a_takes a_choice a_isChosen a_column a_next a_barredAt a_ways a_own a_goes a_rowGoes a_mark a_count a_colour v_thrown v_columns v_needed v_rows v_cubes v_placements v_taken v_chosen v_nodes v_found v_isSpent v_told v_kept v_turns v_toldNodes v_bits v_colours v_cube v_laid))) (qc_X5_lay (va_A (ws_X5_lay cB cI cJ cZ a_this a_bits a_colours a_cube a_laid a_times a_takes a_choice a_isChosen a_column a_next a_barredAt a_ways a_own a_goes a_rowGoes a_mark a_count a_colour v_thrown v_columns v_needed v_rows v_cubes v_placements v_taken v_chosen v_nodes v_found v_isSpent v_told v_kept v_turns v_toldNodes v_bits v_colours v_cube v_laid) sz) dC dI cB cI cJ cZ a_this a_bits a_colours a_cube a_laid a_times a_takes a_choice a_isChosen a_column a_next a_barredAt a_ways a_own a_goes a_rowGoes a_mark a_count a_colour v_columns v_needed v_taken v_chosen v_nodes v_found v_isSpent v_told v_turns v_toldNodes v_cube out) 0 0 (va_A (ws_X5_lay cB cI cJ cZ a_this a_bits a_colours a_cube a_laid a_times a_takes a_choice a_isChosen a_column a_next a_barredAt a_ways a_own a_goes a_rowGoes a_mark a_count a_colour v_thrown v_columns v_needed v_rows v_cubes v_placements v_taken v_chosen v_nodes v_found v_isSpent v_told v_kept v_turns v_toldNodes v_bits v_colours v_cube v_laid) sz) := by
  refine Met.ofW (cc := cX5_lay) (maxL := 7) (ret := (some .int)) (by decide) rfl ?_
  intro p e s m args below meth c s₁ B hml hv
  obtain ⟨rfl, hsz, hP, hK, hD0⟩ := hv
  subst hsz
  have hD := hD0.self (sz := s.heap.size)
  generalize hAe : va_A (ws_X5_lay cB cI cJ cZ a_this a_bits a_colours a_cube a_laid a_times a_takes a_choice a_isChosen a_column a_next a_barredAt a_ways a_own a_goes a_rowGoes a_mark a_count a_colour v_thrown v_columns v_needed v_rows v_cubes v_placements v_taken v_chosen v_nodes v_found v_isSpent v_told v_kept v_turns v_toldNodes v_bits v_colours v_cube v_laid) s.heap.size = A at hD ⊢
  have hA : ∀ q : Nat, s.heap.size ≤ q → A q := fun q h => by rw [← hAe]; exact Or.inr h
  have hl := lv_entry ([.ref a_this, .int x1, .int x2, .int x3, .int x4, .int x5]) (n := 7) (Nat.le_of_ble_eq_true rfl)
  rw [lg_entry_eq]
  generalize (lg_sl ([.ref a_this, .int x1, .int x2, .int x3, .int x4, .int x5]) ++ List.replicate (7 - (lg_sl ([.ref a_this, .int x1, .int x2, .int x3, .int x4, .int x5])).length) Slot.unset).toArray = ls at hl ⊢
  have hl : lv_has ls 7 [(0, .ref a_this), (1, .int x1), (2, .int x2), (3, .int x3), (4, .int x4), (5, .int x5)] := hl
  exact w_X5_lay_0 ⟨B.exec, B.bytes, B.returns, hml, findClass_of_methodNamed B.named, atoms_spec (ws := wsX5_lay) B.pre, B.notSynchronized, hA⟩ hK v_thrown v_rows v_cubes v_placements v_kept v_bits v_colours v_laid x1 x2 x3 x4 x5 hf _ _ hP hD va_S.rf ls (lv_sub hl [0, 1, 2, 3, 4, 5] rfl)
