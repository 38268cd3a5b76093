-- X2.rowsWithAny(I)J: 25 instructions
theorem in_X2_rowsWithAny_X2 : ∀ w ∈ wsX20, w ∈ wsX2_rowsWithAny := by decide +kernel
abbrev ws_X2_rowsWithAny (cB cI cJ cZ : ClassId) (a_this a_rowsOf a_due a_columnsOf a_colours a_clashesOf : Nat) (v_columnCount : Int32) (v_neededCount : Int32) (v_rowCount : Int32) (v_rowsOf : (Nat → Int64)) : va_W := [(a_this, .inr (3, [.int v_columnCount, .int v_neededCount, .ref a_due, .ref a_columnsOf, .ref a_colours, .ref a_rowsOf, .ref a_clashesOf, .int v_rowCount])), (a_rowsOf, .inl (cJ, 24, .inr (.inl v_rowsOf)))]
abbrev rm_X2_rowsWithAny : Room := { frames := 0, cells := 0, slots := 0, locals := 0 }
theorem lk_X2_rowsWithAny_f26 : Cond.fieldLink RX2 26 "LinkedCovers$Table" "columnCount" "I" ∈ wsX2_rowsWithAny := by decide +kernel
theorem lk_X2_rowsWithAny_f19 : Cond.fieldLink RX2 19 "LinkedCovers$Table" "rowsOf" "[J" ∈ wsX2_rowsWithAny := by decide +kernel
def f_X2_rowsWithAny_33 (v_columnCount : Int32) (v_rowsOf : (Nat → Int64)) (k_5 : Int32 → Int64 → Int32 → Option (Int64 × Unit)) (x1 : Int32) (x2 : Int64) (x4 : Int32) : Option (Int64 × Unit) :=
  k_5 x1 x2 (x4 + 1)
def f_X2_rowsWithAny_5 (v_columnCount : Int32) (v_rowsOf : (Nat → Int64))  : Nat → Int32 → Int64 → Int32 → Option (Int64 × Unit)
  | 0 => fun _ _ _ => none
  | n + 1 => fun x1 x2 x4 => if v_columnCount ≤ x4 then
  (some ((x2, ())))
  else
  (if ((x1 >>> (x4 &&& 31)) &&& (1 : Int32)) = 0 then
  (f_X2_rowsWithAny_33 v_columnCount v_rowsOf (f_X2_rowsWithAny_5 v_columnCount v_rowsOf n) x1 x2 x4)
  else
  (if (x4 < 0 ∨ 24 ≤ Int32.toNatClampNeg x4) then none else
  f_X2_rowsWithAny_33 v_columnCount v_rowsOf (f_X2_rowsWithAny_5 v_columnCount v_rowsOf n) x1 (x2 ||| (v_rowsOf (Int32.toNatClampNeg x4))) x4))
def f_X2_rowsWithAny (v_columnCount : Int32) (v_rowsOf : (Nat → Int64))  (x1 : Int32) : Option (Int64 × Unit) :=
  f_X2_rowsWithAny_5 v_columnCount v_rowsOf 1000000 x1 (0 : Int64) (0 : Int32)
abbrev qc_X2_rowsWithAny (A : Nat → Prop) (dC : Nat → ClassId) (dI : Nat → Nat → Nat) (cB cI cJ cZ : ClassId) (a_this a_rowsOf a_due a_columnsOf a_colours a_clashesOf : Nat) (v_columnCount : Int32) (v_neededCount : Int32) (v_rowCount : Int32) (v_rowsOf : (Nat → Int64)) (out : Int64 × Unit) : Array Value → State → Outcome → State → Prop := va_Ql (fun (r : Int64) (u : Unit) => r = out.1 ∧ u = out.2) (fun (u : Unit) (t : State) => va_P (dC, dI) vwCl (ws_X2_rowsWithAny cB cI cJ cZ a_this a_rowsOf a_due a_columnsOf a_colours a_clashesOf v_columnCount v_neededCount v_rowCount v_rowsOf) t.heap ∧ va_K (dC, dI) vwCl (tysG cB cI cJ cZ) t ∧ va_D A (ws_X2_rowsWithAny cB cI cJ cZ a_this a_rowsOf a_due a_columnsOf a_colours a_clashesOf v_columnCount v_neededCount v_rowCount v_rowsOf)) A
abbrev g_X2_rowsWithAny_33 (p : Program) (l : Launch) (e : Env) (s : State) (m : MethodId) (args : Array Value) (below : List Frame) (meth : Method) (c : Code) (A : Nat → Prop) (dC : Nat → ClassId) (dI : Nat → Nat → Nat) (cB cI cJ cZ : ClassId) (a_this a_rowsOf a_due a_columnsOf a_colours a_clashesOf : Nat) (v_columnCount : Int32) (v_neededCount : Int32) (v_rowCount : Int32) (v_rowsOf : (Nat → Int64)) (out : Int64 × Unit) (k : Int32 → Int64 → Int32 → Option (Int64 × Unit)) : Prop := ∀ (x1 : Int32) (x2 : Int64) (x4 : Int32), k x1 x2 x4 = some out → ∀ (H : Heap) (locs : List Loc), va_P (dC, dI) vwCl (ws_X2_rowsWithAny cB cI cJ cZ a_this a_rowsOf a_due a_columnsOf a_colours a_clashesOf v_columnCount v_neededCount v_rowCount v_rowsOf) H → va_D A (ws_X2_rowsWithAny cB cI cJ cZ a_this a_rowsOf a_due a_columnsOf a_colours a_clashesOf v_columnCount v_neededCount v_rowCount v_rowsOf) → va_S A s.heap H locs → ∀ (ls : Array Slot), lv_has ls 5 [(0, .ref a_this), (1, .int x1), (2, .long x2), (4, .int x4)] → W p l e (headSpec wsX2_rowsWithAny rm_X2_rowsWithAny).room s m args below meth c H locs 0 0 (MQ below (qc_X2_rowsWithAny A dC dI cB cI cJ cZ a_this a_rowsOf a_due a_columnsOf a_colours a_clashesOf v_columnCount v_neededCount v_rowCount v_rowsOf out) args s 0 0 A) (F0 m 33 ls [])
abbrev g_X2_rowsWithAny_5 (p : Program) (l : Launch) (e : Env) (s : State) (m : MethodId) (args : Array Value) (below : List Frame) (meth : Method) (c : Code) (A : Nat → Prop) (dC : Nat → ClassId) (dI : Nat → Nat → Nat) (cB cI cJ cZ : ClassId) (a_this a_rowsOf a_due a_columnsOf a_colours a_clashesOf : Nat) (v_columnCount : Int32) (v_neededCount : Int32) (v_rowCount : Int32) (v_rowsOf : (Nat → Int64)) (out : Int64 × Unit) (k : Int32 → Int64 → Int32 → Option (Int64 × Unit)) : Prop := ∀ (x1 : Int32) (x2 : Int64) (x4 : Int32), k x1 x2 x4 = some out → ∀ (H : Heap) (locs : List Loc), va_P (dC, dI) vwCl (ws_X2_rowsWithAny cB cI cJ cZ a_this a_rowsOf a_due a_columnsOf a_colours a_clashesOf v_columnCount v_neededCount v_rowCount v_rowsOf) H → va_D A (ws_X2_rowsWithAny cB cI cJ cZ a_this a_rowsOf a_due a_columnsOf a_colours a_clashesOf v_columnCount v_neededCount v_rowCount v_rowsOf) → va_S A s.heap H locs → ∀ (ls : Array Slot), lv_has ls 5 [(0, .ref a_this), (1, .int x1), (2, .long x2), (4, .int x4)] → W p l e (headSpec wsX2_rowsWithAny rm_X2_rowsWithAny).room s m args below meth c H locs 0 0 (MQ below (qc_X2_rowsWithAny A dC dI cB cI cJ cZ a_this a_rowsOf a_due a_columnsOf a_colours a_clashesOf v_columnCount v_neededCount v_rowCount v_rowsOf out) args s 0 0 A) (F0 m 5 ls [])
abbrev g_X2_rowsWithAny_0 (p : Program) (l : Launch) (e : Env) (s : State) (m : MethodId) (args : Array Value) (below : List Frame) (meth : Method) (c : Code) (A : Nat → Prop) (dC : Nat → ClassId) (dI : Nat → Nat → Nat) (cB cI cJ cZ : ClassId) (a_this a_rowsOf a_due a_columnsOf a_colours a_clashesOf : Nat) (v_columnCount : Int32) (v_neededCount : Int32) (v_rowCount : Int32) (v_rowsOf : (Nat → Int64)) (out : Int64 × Unit) (k : Int32 → Option (Int64 × Unit)) : Prop := ∀ (x1 : Int32), k x1 = some out → ∀ (H : Heap) (locs : List Loc), va_P (dC, dI) vwCl (ws_X2_rowsWithAny cB cI cJ cZ a_this a_rowsOf a_due a_columnsOf a_colours a_clashesOf v_columnCount v_neededCount v_rowCount v_rowsOf) H → va_D A (ws_X2_rowsWithAny cB cI cJ cZ a_this a_rowsOf a_due a_columnsOf a_colours a_clashesOf v_columnCount v_neededCount v_rowCount v_rowsOf) → va_S A s.heap H locs → ∀ (ls : Array Slot), lv_has ls 5 [(0, .ref a_this), (1, .int x1)] → W p l e (headSpec wsX2_rowsWithAny rm_X2_rowsWithAny).room s m args below meth c H locs 0 0 (MQ below (qc_X2_rowsWithAny A dC dI cB cI cJ cZ a_this a_rowsOf a_due a_columnsOf a_colours a_clashesOf v_columnCount v_neededCount v_rowCount v_rowsOf out) args s 0 0 A) (F0 m 0 ls [])
set_option maxHeartbeats 4000000 in
set_option maxRecDepth 100000 in
theorem w_X2_rowsWithAny_33 {p : Program} {l : Launch} {e : Env} {s : State} {m : MethodId} {args : Array Value} {below : List Frame} {meth : Method} {c : Code} {A : Nat → Prop} {dC : Nat → ClassId} {dI : Nat → Nat → Nat} {cB cI cJ cZ : ClassId} {a_this a_rowsOf a_due a_columnsOf a_colours a_clashesOf : Nat} {v_columnCount : Int32} {v_neededCount : Int32} {v_rowCount : Int32} {v_rowsOf : (Nat → Int64)} {out : Int64 × Unit} (C0 : Cx RX2 cX2_rowsWithAny (some .long) 5 wsX2_rowsWithAny p s m args meth c A) (hK : va_K (dC, dI) vwCl (tysG cB cI cJ cZ) s) {k_5 : Int32 → Int64 → Int32 → Option (Int64 × Unit)} (hk_5 : g_X2_rowsWithAny_5 p l e s m args below meth c A dC dI cB cI cJ cZ a_this a_rowsOf a_due a_columnsOf a_colours a_clashesOf v_columnCount v_neededCount v_rowCount v_rowsOf out k_5) : g_X2_rowsWithAny_33 p l e s m args below meth c A dC dI cB cI cJ cZ a_this a_rowsOf a_due a_columnsOf a_colours a_clashesOf v_columnCount v_neededCount v_rowCount v_rowsOf out (f_X2_rowsWithAny_33 v_columnCount v_rowsOf k_5) := by
  obtain ⟨hx, hb, hr, hml, hown, hts, hlocks, hA⟩ := id C0
  intro x1 x2 x4 hf H locs hP hD hS ls hl
  replace hf : ((k_5 x1 x2 (x4 + 1)) : Option (Int64 × Unit)) = some out := hf
  refine lv_iinc (v := (x4 + 1)) (lv' := [(4, .int (x4 + 1)), (0, .ref a_this), (1, .int x1), (2, .long x2)]) hx hb dX2_rowsWithAny_33 hl (k := 3) rfl rfl (by decide) rfl (fun ls hl => ?_)
  refine lv_goto (tgt := 5) hx hb dX2_rowsWithAny_36 (by decide) ?_
  exact hk_5 x1 x2 (x4 + 1) hf _ _ hP hD hS ls (lv_sub hl [1, 2, 3, 0] rfl)
set_option maxHeartbeats 4000000 in
set_option maxRecDepth 100000 in
theorem w_X2_rowsWithAny_5 {p : Program} {l : Launch} {e : Env} {s : State} {m : MethodId} {args : Array Value} {below : List Frame} {meth : Method} {c : Code} {A : Nat → Prop} {dC : Nat → ClassId} {dI : Nat → Nat → Nat} {cB cI cJ cZ : ClassId} {a_this a_rowsOf a_due a_columnsOf a_colours a_clashesOf : Nat} {v_columnCount : Int32} {v_neededCount : Int32} {v_rowCount : Int32} {v_rowsOf : (Nat → Int64)} {out : Int64 × Unit} (C0 : Cx RX2 cX2_rowsWithAny (some .long) 5 wsX2_rowsWithAny p s m args meth c A) (hK : va_K (dC, dI) vwCl (tysG cB cI cJ cZ) s)  : ∀ n : Nat, g_X2_rowsWithAny_5 p l e s m args below meth c A dC dI cB cI cJ cZ a_this a_rowsOf a_due a_columnsOf a_colours a_clashesOf v_columnCount v_neededCount v_rowCount v_rowsOf out (f_X2_rowsWithAny_5 v_columnCount v_rowsOf  n) := by
  obtain ⟨hx, hb, hr, hml, hown, hts, hlocks, hA⟩ := id C0
  intro n
  induction n with
  | zero =>
    intro x1 x2 x4 hf H locs hP hD hS ls hl
    exact nomatch (show (none : Option (Int64 × Unit)) = some out from hf)
  | succ n ih =>
    intro x1 x2 x4 hf H locs hP hD hS ls hl
    replace hf : ((if v_columnCount ≤ x4 then
  (some ((x2, ())))
  else
  (if ((x1 >>> (x4 &&& 31)) &&& (1 : Int32)) = 0 then
  (f_X2_rowsWithAny_33 v_columnCount v_rowsOf (f_X2_rowsWithAny_5 v_columnCount v_rowsOf n) x1 x2 x4)
  else
  (if (x4 < 0 ∨ 24 ≤ Int32.toNatClampNeg x4) then none else
  f_X2_rowsWithAny_33 v_columnCount v_rowsOf (f_X2_rowsWithAny_5 v_columnCount v_rowsOf n) x1 (x2 ||| (v_rowsOf (Int32.toNatClampNeg x4))) x4))) : Option (Int64 × Unit)) = some out := hf
    refine lv_iload hx hb dX2_rowsWithAny_5 (lv_at hl 3 rfl) ?_
    refine lv_aload_n hx hb dX2_rowsWithAny_7 rfl (lv_at hl 0 rfl) ?_
    refine va_get (D := (dC, dI)) (ci := 3) (v := .int v_columnCount) (C := RX2) (T := TX2) (N := 8) hx hb hts in_X2_rowsWithAny_X2 hown hK hP 0 rfl rfl 0 (by decide) (hts (.fieldLink RX2 26 "LinkedCovers$Table" "columnCount" "I") lk_X2_rowsWithAny_f26) (fun _ h9 => h9) rfl dX2_rowsWithAny_8 ?_
    refine lv_icmp_ge (tgt := 39) hx hb dX2_rowsWithAny_11 (by decide) (fun c_1 => ?_) (fun c_1 => ?_)
    · replace hf := (if_pos c_1).symm.trans hf
      refine lv_lload_n hx hb dX2_rowsWithAny_39 rfl (lv_at hl 2 rfl) ?_
      have h9 := Option.some.inj hf
      have h8 := congrArg Prod.fst h9
      have h7 := congrArg Prod.snd h9
      exact W.lret (v := x2) hx hb hr (fun t ht hW => ⟨⟨x2, (), rfl, ⟨h8, h7⟩, by rw [ht]; exact hP, va_K.moved hW.alike hK, hD⟩, hS.F ht⟩) hS.2.2 dX2_rowsWithAny_40
    · replace hf := (if_neg c_1).symm.trans hf
      refine lv_iload_n hx hb dX2_rowsWithAny_14 rfl (lv_at hl 1 rfl) ?_
      refine lv_iload hx hb dX2_rowsWithAny_15 (lv_at hl 3 rfl) ?_
      refine lv_ishr hx hb dX2_rowsWithAny_17 ?_
      refine lv_iconst (v := 1) hx hb dX2_rowsWithAny_18 (by decide) ?_
      refine lv_iand hx hb dX2_rowsWithAny_19 ?_
      refine lv_if_eq (tgt := 33) hx hb dX2_rowsWithAny_20 (by decide) (fun c_2 => ?_) (fun c_2 => ?_)
      · replace hf := (if_pos c_2).symm.trans hf
        exact w_X2_rowsWithAny_33 C0 hK ih x1 x2 x4 hf _ _ hP hD hS ls (lv_sub hl [0, 1, 2, 3] rfl)
      · replace hf := (if_neg c_2).symm.trans hf
        refine lv_lload_n hx hb dX2_rowsWithAny_23 rfl (lv_at hl 2 rfl) ?_
        refine lv_aload_n hx hb dX2_rowsWithAny_24 rfl (lv_at hl 0 rfl) ?_
        refine va_get (D := (dC, dI)) (ci := 3) (v := .ref a_rowsOf) (C := RX2) (T := TX2) (N := 8) hx hb hts in_X2_rowsWithAny_X2 hown hK hP 0 rfl rfl 5 (by decide) (hts (.fieldLink RX2 19 "LinkedCovers$Table" "rowsOf" "[J") lk_X2_rowsWithAny_f19) (fun _ h9 => h9) rfl dX2_rowsWithAny_25 ?_
        refine lv_iload hx hb dX2_rowsWithAny_28 (lv_at hl 3 rfl) ?_
        obtain ⟨h_3, hf⟩ := gd_ck hf
        refine va_lald hx hb hK hP 1 2 rfl rfl h_3 dX2_rowsWithAny_30 ?_
        refine lv_lor hx hb dX2_rowsWithAny_31 ?_
        refine lv_lstore_n (lv' := [(2, .long (x2 ||| (v_rowsOf (Int32.toNatClampNeg x4)))), (0, .ref a_this), (1, .int x1), (4, .int x4)]) hx hb dX2_rowsWithAny_32 rfl hl (by decide) rfl (fun ls hl => ?_)
        exact w_X2_rowsWithAny_33 C0 hK ih x1 (x2 ||| (v_rowsOf (Int32.toNatClampNeg x4))) x4 hf _ _ hP hD hS ls (lv_sub hl [1, 2, 0, 3] rfl)
set_option maxHeartbeats 4000000 in
set_option maxRecDepth 100000 in
theorem w_X2_rowsWithAny_0 {p : Program} {l : Launch} {e : Env} {s : State} {m : MethodId} {args : Array Value} {below : List Frame} {meth : Method} {c : Code} {A : Nat → Prop} {dC : Nat → ClassId} {dI : Nat → Nat → Nat} {cB cI cJ cZ : ClassId} {a_this a_rowsOf a_due a_columnsOf a_colours a_clashesOf : Nat} {v_columnCount : Int32} {v_neededCount : Int32} {v_rowCount : Int32} {v_rowsOf : (Nat → Int64)} {out : Int64 × Unit} (C0 : Cx RX2 cX2_rowsWithAny (some .long) 5 wsX2_rowsWithAny p s m args meth c A) (hK : va_K (dC, dI) vwCl (tysG cB cI cJ cZ) s)  : g_X2_rowsWithAny_0 p l e s m args below meth c A dC dI cB cI cJ cZ a_this a_rowsOf a_due a_columnsOf a_colours a_clashesOf v_columnCount v_neededCount v_rowCount v_rowsOf out (f_X2_rowsWithAny v_columnCount v_rowsOf ) := by
  obtain ⟨hx, hb, hr, hml, hown, hts, hlocks, hA⟩ := id C0
  intro x1 hf H locs hP hD hS ls hl
  replace hf : ((f_X2_rowsWithAny_5 v_columnCount v_rowsOf 1000000 x1 (0 : Int64) (0 : Int32)) : Option (Int64 × Unit)) = some out := hf
  refine lv_lconst (v := 0) hx hb dX2_rowsWithAny_0 (by decide) ?_
  refine lv_lstore_n (lv' := [(2, .long (0 : Int64)), (0, .ref a_this), (1, .int x1)]) hx hb dX2_rowsWithAny_1 rfl hl (by decide) rfl (fun ls hl => ?_)
  refine lv_iconst (v := 0) hx hb dX2_rowsWithAny_2 (by decide) ?_
  refine lv_istore (lv' := [(4, .int (0 : Int32)), (2, .long (0 : Int64)), (0, .ref a_this), (1, .int x1)]) hx hb dX2_rowsWithAny_3 hl (by decide) rfl (fun ls hl => ?_)
  exact w_X2_rowsWithAny_5 C0 hK 1000000 x1 (0 : Int64) (0 : Int32) hf _ _ hP hD hS ls (lv_sub hl [2, 3, 1, 0] rfl)
theorem nd_X2_rowsWithAny : yX2_rowsWithAny.cls ≠ "java/lang/invoke/MethodHandle" ∧ yX2_rowsWithAny.cls ≠ "java/lang/invoke/VarHandle" ∧ (parseMethodDescriptor yX2_rowsWithAny.desc).map (fun d => d.parameters.length) = some 1 := by decide +kernel
set_option maxHeartbeats 4000000 in
set_option maxRecDepth 100000 in
theorem c_X2_rowsWithAny (l : Launch) (dC : Nat → ClassId) (dI : Nat → Nat → Nat) (cB cI cJ cZ : ClassId) (a_this a_rowsOf a_due a_columnsOf a_colours a_clashesOf : Nat) (sz : Nat) (v_columnCount : Int32) (v_neededCount : Int32) (v_rowCount : Int32) (v_rowsOf : (Nat → Int64)) (x1 : Int32) (out : Int64 × Unit) (hf : f_X2_rowsWithAny v_columnCount v_rowsOf x1 = some out) : Met l yX2_rowsWithAny wsX2_rowsWithAny rm_X2_rowsWithAny (va_Pc [.ref a_this, .int x1] (fun U => U.heap.size = sz ∧ va_P (dC, dI) vwCl (ws_X2_rowsWithAny cB cI cJ cZ a_this a_rowsOf a_due a_columnsOf a_colours a_clashesOf v_columnCount v_neededCount v_rowCount v_rowsOf) U.heap ∧ va_K (dC, dI) vwCl (tysG cB cI cJ cZ) U ∧ va_D (fun _ => True) (ws_X2_rowsWithAny cB cI cJ cZ a_this a_rowsOf a_due a_columnsOf a_colours a_clashesOf v_columnCount v_neededCount v_rowCount v_rowsOf))) (qc_X2_rowsWithAny (va_A (ws_X2_rowsWithAny cB cI cJ cZ a_this a_rowsOf a_due a_columnsOf a_colours a_clashesOf v_columnCount v_neededCount v_rowCount v_rowsOf) sz) dC dI cB cI cJ cZ a_this a_rowsOf a_due a_columnsOf a_colours a_clashesOf v_columnCount v_neededCount v_rowCount v_rowsOf out) 0 0 (va_A (ws_X2_rowsWithAny cB cI cJ cZ a_this a_rowsOf a_due a_columnsOf a_colours a_clashesOf v_columnCount v_neededCount v_rowCount v_rowsOf) sz) := by
  refine Met.ofW (cc := cX2_rowsWithAny) (maxL := 5) (ret := (some .long)) (by decide) rfl ?_
  intro p e s m args below meth c s₁ B hml hv
  obtain ⟨rfl, hsz, hP, hK, hD0⟩ := hv
  subst hsz
  have hD := hD0.self (sz := s.heap.size)
  generalize hAe : va_A (ws_X2_rowsWithAny cB cI cJ cZ a_this a_rowsOf a_due a_columnsOf a_colours a_clashesOf v_columnCount v_neededCount v_rowCount v_rowsOf) s.heap.size = A at hD ⊢
  have hA : ∀ q : Nat, s.heap.size ≤ q → A q := fun q h => by rw [← hAe]; exact Or.inr h
  have hl := lv_entry ([.ref a_this, .int x1]) (n := 5) (Nat.le_of_ble_eq_true rfl)
  rw [lg_entry_eq]
  generalize (lg_sl ([.ref a_this, .int x1]) ++ List.replicate (5 - (lg_sl ([.ref a_this, .int x1])).length) Slot.unset).toArray = ls at hl ⊢
  have hl : lv_has ls 5 [(0, .ref a_this), (1, .int x1)] := hl
  exact w_X2_rowsWithAny_0 ⟨B.exec, B.bytes, B.returns, hml, findClass_of_methodNamed B.named, atoms_spec (ws := wsX2_rowsWithAny) B.pre, B.notSynchronized, hA⟩ hK x1 hf _ _ hP hD va_S.rf ls (lv_sub hl [0, 1] rfl)
-- X2.fitting(J)J: 53 instructions
theorem in_X2_fitting_X2 : ∀ w ∈ wsX20, w ∈ wsX2_fitting := by decide +kernel
abbrev ws_X2_fitting (cB cI cJ cZ : ClassId) (a_this a_due a_rowsOf a_clashesOf a_columnsOf a_colours : Nat) (v_columnCount : Int32) (v_neededCount : Int32) (v_rowCount : Int32) (v_due : (Nat → Int32)) (v_rowsOf : (Nat → Int64)) (v_clashesOf : (Nat → Int64)) : va_W := [(a_this, .inr (3, [.int v_columnCount, .int v_neededCount, .ref a_due, .ref a_columnsOf, .ref a_colours, .ref a_rowsOf, .ref a_clashesOf, .int v_rowCount])), (a_due, .inl (cI, 24, .inl v_due)), (a_rowsOf, .inl (cJ, 24, .inr (.inl v_rowsOf))), (a_clashesOf, .inl (cJ, 60, .inr (.inl v_clashesOf)))]
abbrev rm_X2_fitting : Room := { frames := 2, cells := 0, slots := 0, locals := 46 }
theorem lk_X2_fitting_f36 : Cond.fieldLink RX2 36 "LinkedCovers$Table" "rowCount" "I" ∈ wsX2_fitting := by decide +kernel
theorem lk_X2_fitting_f23 : Cond.fieldLink RX2 23 "LinkedCovers$Table" "clashesOf" "[J" ∈ wsX2_fitting := by decide +kernel
theorem lk_X2_fitting_c77 : Cond.constantLong RX2 77 (-1) ∈ wsX2_fitting := by decide +kernel
def f_X2_fitting_80 (v_columnCount : Int32) (v_neededCount : Int32) (v_rowCount : Int32) (v_due : (Nat → Int32)) (v_rowsOf : (Nat → Int64)) (v_clashesOf : (Nat → Int64)) (k_44 : Int64 → Int64 → Int32 → Option (Int64 × Unit)) (x1 : Int64) (x5 : Int64) (x7 : Int32) : Option (Int64 × Unit) :=
  k_44 x1 x5 (x7 + 1)
def f_X2_fitting_44 (v_columnCount : Int32) (v_neededCount : Int32) (v_rowCount : Int32) (v_due : (Nat → Int32)) (v_rowsOf : (Nat → Int64)) (v_clashesOf : (Nat → Int64))  : Nat → Int64 → Int64 → Int32 → Option (Int64 × Unit)
  | 0 => fun _ _ _ => none
  | n + 1 => fun x1 x5 x7 => if v_rowCount ≤ x7 then
  (some ((x5, ())))
  else
  (if (x7 < 0 ∨ 60 ≤ Int32.toNatClampNeg x7) then none else
  if (lg_cmp ((v_clashesOf (Int32.toNatClampNeg x7)) &&& x1) (0 : Int64)) = 0 then
  (f_X2_fitting_80 v_columnCount v_neededCount v_rowCount v_due v_rowsOf v_clashesOf (f_X2_fitting_44 v_columnCount v_neededCount v_rowCount v_due v_rowsOf v_clashesOf n) x1 x5 x7)
  else
  (f_X2_fitting_80 v_columnCount v_neededCount v_rowCount v_due v_rowsOf v_clashesOf (f_X2_fitting_44 v_columnCount v_neededCount v_rowCount v_due v_rowsOf v_clashesOf n) x1 (x5 &&& (((1 : Int64) <<< (Int32.toInt64 x7 &&& 63)) ^^^ (-1 : Int64))) x7))
def f_X2_fitting (v_columnCount : Int32) (v_neededCount : Int32) (v_rowCount : Int32) (v_due : (Nat → Int32)) (v_rowsOf : (Nat → Int64)) (v_clashesOf : (Nat → Int64))  (x1 : Int64) : Option (Int64 × Unit) :=
  (f_X2_neededColumns v_neededCount).bind (fun o_4 =>
  (f_X2_uncovered v_neededCount v_due v_rowsOf o_4.1 x1).bind (fun o_5 =>
  (f_X2_rowsWithAny v_columnCount v_rowsOf o_4.1).bind (fun o_6 =>
  (f_X2_rowsWithAny v_columnCount v_rowsOf (o_4.1 &&& (o_5.1 ^^^ (-1 : Int32)))).bind (fun o_7 =>
  f_X2_fitting_44 v_columnCount v_neededCount v_rowCount v_due v_rowsOf v_clashesOf 1000000 x1 ((o_6.1 &&& (x1 ^^^ (-1 : Int64))) &&& (o_7.1 ^^^ (-1 : Int64))) (0 : Int32)))))
abbrev qc_X2_fitting (A : Nat → Prop) (dC : Nat → ClassId) (dI : Nat → Nat → Nat) (cB cI cJ cZ : ClassId) (a_this a_due a_rowsOf a_clashesOf a_columnsOf a_colours : Nat) (v_columnCount : Int32) (v_neededCount : Int32) (v_rowCount : Int32) (v_due : (Nat → Int32)) (v_rowsOf : (Nat → Int64)) (v_clashesOf : (Nat → Int64)) (out : Int64 × Unit) : Array Value → State → Outcome → State → Prop := va_Ql (fun (r : Int64) (u : Unit) => r = out.1 ∧ u = out.2) (fun (u : Unit) (t : State) => va_P (dC, dI) vwCl (ws_X2_fitting cB cI cJ cZ a_this a_due a_rowsOf a_clashesOf a_columnsOf a_colours v_columnCount v_neededCount v_rowCount v_due v_rowsOf v_clashesOf) t.heap ∧ va_K (dC, dI) vwCl (tysG cB cI cJ cZ) t ∧ va_D A (ws_X2_fitting cB cI cJ cZ a_this a_due a_rowsOf a_clashesOf a_columnsOf a_colours v_columnCount v_neededCount v_rowCount v_due v_rowsOf v_clashesOf)) A
abbrev g_X2_fitting_80 (p : Program) (l : Launch) (e : Env) (s : State) (m : MethodId) (args : Array Value) (below : List Frame) (meth : Method) (c : Code) (A : Nat → Prop) (dC : Nat → ClassId) (dI : Nat → Nat → Nat) (cB cI cJ cZ : ClassId) (a_this a_due a_rowsOf a_clashesOf a_columnsOf a_colours : Nat) (v_columnCount : Int32) (v_neededCount : Int32) (v_rowCount : Int32) (v_due : (Nat → Int32)) (v_rowsOf : (Nat → Int64)) (v_clashesOf : (Nat → Int64)) (out : Int64 × Unit) (k : Int64 → Int64 → Int32 → Option (Int64 × Unit)) : Prop := ∀ (x1 : Int64) (x5 : Int64) (x7 : Int32), k x1 x5 x7 = some out → ∀ (H : Heap) (locs : List Loc), va_P (dC, dI) vwCl (ws_X2_fitting cB cI cJ cZ a_this a_due a_rowsOf a_clashesOf a_columnsOf a_colours v_columnCount v_neededCount v_rowCount v_due v_rowsOf v_clashesOf) H → va_D A (ws_X2_fitting cB cI cJ cZ a_this a_due a_rowsOf a_clashesOf a_columnsOf a_colours v_columnCount v_neededCount v_rowCount v_due v_rowsOf v_clashesOf) → va_S A s.heap H locs → ∀ (ls : Array Slot), lv_has ls 8 [(0, .ref a_this), (1, .long x1), (5, .long x5), (7, .int x7)] → W p l e (headSpec wsX2_fitting rm_X2_fitting).room s m args below meth c H locs 0 0 (MQ below (qc_X2_fitting A dC dI cB cI cJ cZ a_this a_due a_rowsOf a_clashesOf a_columnsOf a_colours v_columnCount v_neededCount v_rowCount v_due v_rowsOf v_clashesOf out) args s 0 0 A) (F0 m 80 ls [])
abbrev g_X2_fitting_44 (p : Program) (l : Launch) (e : Env) (s : State) (m : MethodId) (args : Array Value) (below : List Frame) (meth : Method) (c : Code) (A : Nat → Prop) (dC : Nat → ClassId) (dI : Nat → Nat → Nat) (cB cI cJ cZ : ClassId) (a_this a_due a_rowsOf a_clashesOf a_columnsOf a_colours : Nat) (v_columnCount : Int32) (v_neededCount : Int32) (v_rowCount : Int32) (v_due : (Nat → Int32)) (v_rowsOf : (Nat → Int64)) (v_clashesOf : (Nat → Int64)) (out : Int64 × Unit) (k : Int64 → Int64 → Int32 → Option (Int64 × Unit)) : Prop := ∀ (x1 : Int64) (x5 : Int64) (x7 : Int32), k x1 x5 x7 = some out → ∀ (H : Heap) (locs : List Loc), va_P (dC, dI) vwCl (ws_X2_fitting cB cI cJ cZ a_this a_due a_rowsOf a_clashesOf a_columnsOf a_colours v_columnCount v_neededCount v_rowCount v_due v_rowsOf v_clashesOf) H → va_D A (ws_X2_fitting cB cI cJ cZ a_this a_due a_rowsOf a_clashesOf a_columnsOf a_colours v_columnCount v_neededCount v_rowCount v_due v_rowsOf v_clashesOf) → va_S A s.heap H locs → ∀ (ls : Array Slot), lv_has ls 8 [(0, .ref a_this), (1, .long x1), (5, .long x5), (7, .int x7)] → W p l e (headSpec wsX2_fitting rm_X2_fitting).room s m args below meth c H locs 0 0 (MQ below (qc_X2_fitting A dC dI cB cI cJ cZ a_this a_due a_rowsOf a_clashesOf a_columnsOf a_colours v_columnCount v_neededCount v_rowCount v_due v_rowsOf v_clashesOf out) args s 0 0 A) (F0 m 44 ls [])
abbrev g_X2_fitting_0 (p : Program) (l : Launch) (e : Env) (s : State) (m : MethodId) (args : Array Value) (below : List Frame) (meth : Method) (c : Code) (A : Nat → Prop) (dC : Nat → ClassId) (dI : Nat → Nat → Nat) (cB cI cJ cZ : ClassId) (a_this a_due a_rowsOf a_clashesOf a_columnsOf a_colours : Nat) (v_columnCount : Int32) (v_neededCount : Int32) (v_rowCount : Int32) (v_due : (Nat → Int32)) (v_rowsOf : (Nat → Int64)) (v_clashesOf : (Nat → Int64)) (out : Int64 × Unit) (k : Int64 → Option (Int64 × Unit)) : Prop := ∀ (x1 : Int64), k x1 = some out → ∀ (H : Heap) (locs : List Loc), va_P (dC, dI) vwCl (ws_X2_fitting cB cI cJ cZ a_this a_due a_rowsOf a_clashesOf a_columnsOf a_colours v_columnCount v_neededCount v_rowCount v_due v_rowsOf v_clashesOf) H → va_D A (ws_X2_fitting cB cI cJ cZ a_this a_due a_rowsOf a_clashesOf a_columnsOf a_colours v_columnCount v_neededCount v_rowCount v_due v_rowsOf v_clashesOf) → va_S A s.heap H locs → ∀ (ls : Array Slot), lv_has ls 8 [(0, .ref a_this), (1, .long x1)] → W p l e (headSpec wsX2_fitting rm_X2_fitting).room s m args below meth c H locs 0 0 (MQ below (qc_X2_fitting A dC dI cB cI cJ cZ a_this a_due a_rowsOf a_clashesOf a_columnsOf a_colours v_columnCount v_neededCount v_rowCount v_due v_rowsOf v_clashesOf out) args s 0 0 A) (F0 m 0 ls [])
set_option maxHeartbeats 4000000 in
set_option maxRecDepth 100000 in
theorem w_X2_fitting_80 {p : Program} {l : Launch} {e : Env} {s : State} {m : MethodId} {args : Array Value} {below : List Frame} {meth : Method} {c : Code} {A : Nat → Prop} {dC : Nat → ClassId} {dI : Nat → Nat → Nat} {cB cI cJ cZ : ClassId} {a_this a_due a_rowsOf a_clashesOf a_columnsOf a_colours : Nat} {v_columnCount : Int32} {v_neededCount : Int32} {v_rowCount : Int32} {v_due : (Nat → Int32)} {v_rowsOf : (Nat → Int64)} {v_clashesOf : (Nat → Int64)} {out : Int64 × Unit} (C0 : Cx RX2 cX2_fitting (some .long) 8 wsX2_fitting p s m args meth c A) (hK : va_K (dC, dI) vwCl (tysG cB cI cJ cZ) s) {k_44 : Int64 → Int64 → Int32 → Option (Int64 × Unit)} (hk_44 : g_X2_fitting_44 p l e s m args below meth c A dC dI cB cI cJ cZ a_this a_due a_rowsOf a_clashesOf a_columnsOf a_colours v_columnCount v_neededCount v_rowCount v_due v_rowsOf v_clashesOf out k_44) : g_X2_fitting_80 p l e s m args below meth c A dC dI cB cI cJ cZ a_this a_due a_rowsOf a_clashesOf a_columnsOf a_colours v_columnCount v_neededCount v_rowCount v_due v_rowsOf v_clashesOf out (f_X2_fitting_80 v_columnCount v_neededCount v_rowCount v_due v_rowsOf v_clashesOf k_44) := by
  obtain ⟨hx, hb, hr, hml, hown, hts, hlocks, hA⟩ := id C0
  intro x1 x5 x7 hf H locs hP hD hS ls hl
  replace hf : ((k_44 x1 x5 (x7 + 1)) : Option (Int64 × Unit)) = some out := hf
  refine lv_iinc (v := (x7 + 1)) (lv' := [(7, .int (x7 + 1)), (0, .ref a_this), (1, .long x1), (5, .long x5)]) hx hb dX2_fitting_80 hl (k := 3) rfl rfl (by decide) rfl (fun ls hl => ?_)
  refine lv_goto (tgt := 44) hx hb dX2_fitting_83 (by decide) ?_
  exact hk_44 x1 x5 (x7 + 1) hf _ _ hP hD hS ls (lv_sub hl [1, 2, 3, 0] rfl)
set_option maxHeartbeats 4000000 in
set_option maxRecDepth 100000 in
theorem w_X2_fitting_44 {p : Program} {l : Launch} {e : Env} {s : State} {m : MethodId} {args : Array Value} {below : List Frame} {meth : Method} {c : Code} {A : Nat → Prop} {dC : Nat → ClassId} {dI : Nat → Nat → Nat} {cB cI cJ cZ : ClassId} {a_this a_due a_rowsOf a_clashesOf a_columnsOf a_colours : Nat} {v_columnCount : Int32} {v_neededCount : Int32} {v_rowCount : Int32} {v_due : (Nat → Int32)} {v_rowsOf : (Nat → Int64)} {v_clashesOf : (Nat → Int64)} {out : Int64 × Unit} (C0 : Cx RX2 cX2_fitting (some .long) 8 wsX2_fitting p s m args meth c A) (hK : va_K (dC, dI) vwCl (tysG cB cI cJ cZ) s)  : ∀ n : Nat, g_X2_fitting_44 p l e s m args below meth c A dC dI cB cI cJ cZ a_this a_due a_rowsOf a_clashesOf a_columnsOf a_colours v_columnCount v_neededCount v_rowCount v_due v_rowsOf v_clashesOf out (f_X2_fitting_44 v_columnCount v_neededCount v_rowCount v_due v_rowsOf v_clashesOf  n) := by
  obtain ⟨hx, hb, hr, hml, hown, hts, hlocks, hA⟩ := id C0
  intro n
  induction n with
  | zero =>
    intro x1 x5 x7 hf H locs hP hD hS ls hl
    exact nomatch (show (none : Option (Int64 × Unit)) = some out from hf)
  | succ n ih =>
    intro x1 x5 x7 hf H locs hP hD hS ls hl
    replace hf : ((if v_rowCount ≤ x7 then
  (some ((x5, ())))
  else
  (if (x7 < 0 ∨ 60 ≤ Int32.toNatClampNeg x7) then none else
  if (lg_cmp ((v_clashesOf (Int32.toNatClampNeg x7)) &&& x1) (0 : Int64)) = 0 then
  (f_X2_fitting_80 v_columnCount v_neededCount v_rowCount v_due v_rowsOf v_clashesOf (f_X2_fitting_44 v_columnCount v_neededCount v_rowCount v_due v_rowsOf v_clashesOf n) x1 x5 x7)
  else
  (f_X2_fitting_80 v_columnCount v_neededCount v_rowCount v_due v_rowsOf v_clashesOf (f_X2_fitting_44 v_columnCount v_neededCount v_rowCount v_due v_rowsOf v_clashesOf n) x1 (x5 &&& (((1 : Int64) <<< (Int32.toInt64 x7 &&& 63)) ^^^ (-1 : Int64))) x7))) : Option (Int64 × Unit)) = some out := hf
    refine lv_iload hx hb dX2_fitting_44 (lv_at hl 3 rfl) ?_
    refine lv_aload_n hx hb dX2_fitting_46 rfl (lv_at hl 0 rfl) ?_
    refine va_get (D := (dC, dI)) (ci := 3) (v := .int v_rowCount) (C := RX2) (T := TX2) (N := 8) hx hb hts in_X2_fitting_X2 hown hK hP 0 rfl rfl 7 (by decide) (hts (.fieldLink RX2 36 "LinkedCovers$Table" "rowCount" "I") lk_X2_fitting_f36) (fun _ h9 => h9) rfl dX2_fitting_47 ?_
    refine lv_icmp_ge (tgt := 86) hx hb dX2_fitting_50 (by decide) (fun c_1 => ?_) (fun c_1 => ?_)
    · replace hf := (if_pos c_1).symm.trans hf
      refine lv_lload hx hb dX2_fitting_86 (lv_at hl 2 rfl) ?_
      have h9 := Option.some.inj hf
      have h8 := congrArg Prod.fst h9
      have h7 := congrArg Prod.snd h9
      exact W.lret (v := x5) hx hb hr (fun t ht hW => ⟨⟨x5, (), rfl, ⟨h8, h7⟩, by rw [ht]; exact hP, va_K.moved hW.alike hK, hD⟩, hS.F ht⟩) hS.2.2 dX2_fitting_88
    · replace hf := (if_neg c_1).symm.trans hf
      refine lv_aload_n hx hb dX2_fitting_53 rfl (lv_at hl 0 rfl) ?_
      refine va_get (D := (dC, dI)) (ci := 3) (v := .ref a_clashesOf) (C := RX2) (T := TX2) (N := 8) hx hb hts in_X2_fitting_X2 hown hK hP 0 rfl rfl 6 (by decide) (hts (.fieldLink RX2 23 "LinkedCovers$Table" "clashesOf" "[J") lk_X2_fitting_f23) (fun _ h9 => h9) rfl dX2_fitting_54 ?_
      refine lv_iload hx hb dX2_fitting_57 (lv_at hl 3 rfl) ?_
      obtain ⟨h_2, hf⟩ := gd_ck hf
      refine va_lald hx hb hK hP 3 2 rfl rfl h_2 dX2_fitting_59 ?_
      refine lv_lload_n hx hb dX2_fitting_60 rfl (lv_at hl 1 rfl) ?_
      refine lv_land hx hb dX2_fitting_61 ?_
      refine lv_lconst (v := 0) hx hb dX2_fitting_62 (by decide) ?_
      refine W.lcmp hx hb dX2_fitting_63 ?_
      refine lv_if_eq (tgt := 80) hx hb dX2_fitting_64 (by decide) (fun c_3 => ?_) (fun c_3 => ?_)
      · replace hf := (if_pos c_3).symm.trans hf
        exact w_X2_fitting_80 C0 hK ih x1 x5 x7 hf _ _ hP hD hS ls (lv_sub hl [0, 1, 2, 3] rfl)
      · replace hf := (if_neg c_3).symm.trans hf
        refine lv_lload hx hb dX2_fitting_67 (lv_at hl 2 rfl) ?_
        refine lv_lconst (v := 1) hx hb dX2_fitting_69 (by decide) ?_
        refine lv_iload hx hb dX2_fitting_70 (lv_at hl 3 rfl) ?_
        refine lv_lshl (v := ((1 : Int64) <<< (Int32.toInt64 x7 &&& 63))) hx hb dX2_fitting_72 rfl ?_
        refine lv_ldc2 hx hb hown (hts (.constantLong RX2 77 (-1)) lk_X2_fitting_c77) dX2_fitting_73 ?_
        refine lv_lxor hx hb dX2_fitting_76 ?_
        refine lv_land hx hb dX2_fitting_77 ?_
        refine lv_lstore (lv' := [(5, .long (x5 &&& (((1 : Int64) <<< (Int32.toInt64 x7 &&& 63)) ^^^ (-1 : Int64)))), (0, .ref a_this), (1, .long x1), (7, .int x7)]) hx hb dX2_fitting_78 hl (by decide) rfl (fun ls hl => ?_)
        exact w_X2_fitting_80 C0 hK ih x1 (x5 &&& (((1 : Int64) <<< (Int32.toInt64 x7 &&& 63)) ^^^ (-1 : Int64))) x7 hf _ _ hP hD hS ls (lv_sub hl [1, 2, 0, 3] rfl)
set_option maxHeartbeats 4000000 in
set_option maxRecDepth 100000 in
theorem w_X2_fitting_0 {p : Program} {l : Launch} {e : Env} {s : State} {m : MethodId} {args : Array Value} {below : List Frame} {meth : Method} {c : Code} {A : Nat → Prop} {dC : Nat → ClassId} {dI : Nat → Nat → Nat} {cB cI cJ cZ : ClassId} {a_this a_due a_rowsOf a_clashesOf a_columnsOf a_colours : Nat} {v_columnCount : Int32} {v_neededCount : Int32} {v_rowCount : Int32} {v_due : (Nat → Int32)} {v_rowsOf : (Nat → Int64)} {v_clashesOf : (Nat → Int64)} {out : Int64 × Unit} (C0 : Cx RX2 cX2_fitting (some .long) 8 wsX2_fitting p s m args meth c A) (hK : va_K (dC, dI) vwCl (tysG cB cI cJ cZ) s)  : g_X2_fitting_0 p l e s m args below meth c A dC dI cB cI cJ cZ a_this a_due a_rowsOf a_clashesOf a_columnsOf a_colours v_columnCount v_neededCount v_rowCount v_due v_rowsOf v_clashesOf out (f_X2_fitting v_columnCount v_neededCount v_rowCount v_due v_rowsOf v_clashesOf ) := by
  obtain ⟨hx, hb, hr, hml, hown, hts, hlocks, hA⟩ := id C0
  intro x1 hf H locs hP hD hS ls hl
  replace hf : (((f_X2_neededColumns v_neededCount).bind (fun o_4 =>
  (f_X2_uncovered v_neededCount v_due v_rowsOf o_4.1 x1).bind (fun o_5 =>
  (f_X2_rowsWithAny v_columnCount v_rowsOf o_4.1).bind (fun o_6 =>
  (f_X2_rowsWithAny v_columnCount v_rowsOf (o_4.1 &&& (o_5.1 ^^^ (-1 : Int32)))).bind (fun o_7 =>
  f_X2_fitting_44 v_columnCount v_neededCount v_rowCount v_due v_rowsOf v_clashesOf 1000000 x1 ((o_6.1 &&& (x1 ^^^ (-1 : Int64))) &&& (o_7.1 ^^^ (-1 : Int64))) (0 : Int32)))))) : Option (Int64 × Unit)) = some out := hf
  refine lv_aload_n hx hb dX2_fitting_0 rfl (lv_at hl 0 rfl) ?_
  obtain ⟨o_4, ho_4, hf⟩ := gd_bd hf
  have hPc := hP.sub (ws' := ws_X2_neededColumns cB cI cJ cZ a_this a_due a_columnsOf a_colours a_rowsOf a_clashesOf v_columnCount v_neededCount v_rowCount) [0] rfl
  have hDc := hD.sub (ws' := ws_X2_neededColumns cB cI cJ cZ a_this a_due a_columnsOf a_colours a_rowsOf a_clashesOf v_columnCount v_neededCount v_rowCount) [0] (by decide) rfl
  have hFc := va_free (wc := ws_X2_neededColumns cB cI cJ cZ a_this a_due a_columnsOf a_colours a_rowsOf a_clashesOf v_columnCount v_neededCount v_rowCount) hD hS hA [0] rfl
  refine va_calli (va_runV (As := []) (rest := []) ⟨hx, hb, hml, hown, hts⟩ (c_X2_neededColumns l dC dI cB cI cJ cZ a_this a_due a_columnsOf a_colours a_rowsOf a_clashesOf H.size v_columnCount v_neededCount v_rowCount o_4 ho_4) (cwV 0 hts gX2_fitting_X2_neededColumns rfl rfl rfl ⟨rfl, nd_X2_neededColumns⟩ ⟨Nat.le_of_ble_eq_true rfl, Nat.le_of_ble_eq_true rfl⟩) ⟨fun a U g mk q => by obtain ⟨q0, q1, qP, qK, qD⟩ := q; exact ⟨q0, q1, qP, va_K.moved (u := U) (U := U.calling g mk a) (Vm.Alike.refl U.vm) qK, qD⟩, va_recv hK hPc (ci := 3) (q0 := 0) rfl rfl, fun U hU hW => ⟨rfl, by rw [hU], by rw [hU]; exact hPc, va_K.moved hW.alike hK, hDc.weaken (fun _ _ _ _ => trivial)⟩⟩ rfl rfl hl.1 rfl (lv_room (Nat.le_of_ble_eq_true rfl)) dX2_fitting_1 ⟨Nat.le_of_ble_eq_true rfl, Nat.le_of_ble_eq_true rfl⟩) hS (fun q _ h => hFc q h) hFc (fun r_4 u_4 t H1 locs ht hvm hw hB hz1 hk1 hS => ?_)
  obtain ⟨rfl, rfl⟩ := hw
  obtain ⟨hP1, hK1, hD1⟩ := hB
  rw [ht] at hP1
  obtain ⟨hP, hD⟩ := va_join (wr := [(a_due, .inl (cI, 24, .inl v_due)), (a_rowsOf, .inl (cJ, 24, .inr (.inl v_rowsOf))), (a_clashesOf, .inl (cJ, 60, .inr (.inl v_clashesOf)))]) (w1 := ws_X2_neededColumns cB cI cJ cZ a_this a_due a_columnsOf a_colours a_rowsOf a_clashesOf v_columnCount v_neededCount v_rowCount) hP hD [0] [1, 2, 3] rfl rfl (by decide) (by decide) hk1 hFc hP1 hD1
  generalize H1 = H at hP hS ⊢
  have hP : va_P (dC, dI) vwCl (ws_X2_fitting cB cI cJ cZ a_this a_due a_rowsOf a_clashesOf a_columnsOf a_colours v_columnCount v_neededCount v_rowCount v_due v_rowsOf v_clashesOf) H := hP.sub [3, 0, 1, 2] rfl
  have hD : va_D A (ws_X2_fitting cB cI cJ cZ a_this a_due a_rowsOf a_clashesOf a_columnsOf a_colours v_columnCount v_neededCount v_rowCount v_due v_rowsOf v_clashesOf) := hD.sub [3, 0, 1, 2] (by decide) rfl
  refine lv_istore_n (lv' := [(3, .int o_4.1), (0, .ref a_this), (1, .long x1)]) hx hb dX2_fitting_4 rfl hl (by decide) rfl (fun ls hl => ?_)
  refine lv_iload_n hx hb dX2_fitting_5 rfl (lv_at hl 0 rfl) ?_
  refine lv_aload_n hx hb dX2_fitting_6 rfl (lv_at hl 1 rfl) ?_
  refine lv_iload_n hx hb dX2_fitting_7 rfl (lv_at hl 0 rfl) ?_
  refine lv_lload_n hx hb dX2_fitting_8 rfl (lv_at hl 2 rfl) ?_
  obtain ⟨o_5, ho_5, hf⟩ := gd_bd hf
  have hPc := hP.sub (ws' := ws_X2_uncovered cB cI cJ cZ a_this a_due a_rowsOf a_columnsOf a_colours a_clashesOf v_columnCount v_neededCount v_rowCount v_due v_rowsOf) [0, 1, 2] rfl
  have hDc := hD.sub (ws' := ws_X2_uncovered cB cI cJ cZ a_this a_due a_rowsOf a_columnsOf a_colours a_clashesOf v_columnCount v_neededCount v_rowCount v_due v_rowsOf) [0, 1, 2] (by decide) rfl
  have hFc := va_free (wc := ws_X2_uncovered cB cI cJ cZ a_this a_due a_rowsOf a_columnsOf a_colours a_clashesOf v_columnCount v_neededCount v_rowCount v_due v_rowsOf) hD hS hA [0, 1, 2] rfl
  refine va_calli (va_runV (As := [.int o_4.1, .long x1]) (rest := [.int o_4.1]) ⟨hx, hb, hml, hown, hts⟩ (c_X2_uncovered l dC dI cB cI cJ cZ a_this a_due a_rowsOf a_columnsOf a_colours a_clashesOf H.size v_columnCount v_neededCount v_rowCount v_due v_rowsOf o_4.1 x1 o_5 ho_5) (cwV 2 hts gX2_fitting_X2_uncovered rfl rfl rfl ⟨rfl, nd_X2_uncovered⟩ ⟨Nat.le_of_ble_eq_true rfl, Nat.le_of_ble_eq_true rfl⟩) ⟨fun a U g mk q => by obtain ⟨q0, q1, qP, qK, qD⟩ := q; exact ⟨q0, q1, qP, va_K.moved (u := U) (U := U.calling g mk a) (Vm.Alike.refl U.vm) qK, qD⟩, va_recv hK hPc (ci := 3) (q0 := 0) rfl rfl, fun U hU hW => ⟨rfl, by rw [hU], by rw [hU]; exact hPc, va_K.moved hW.alike hK, hDc.weaken (fun _ _ _ _ => trivial)⟩⟩ rfl rfl hl.1 rfl (lv_room (Nat.le_of_ble_eq_true rfl)) dX2_fitting_9 ⟨Nat.le_of_ble_eq_true rfl, Nat.le_of_ble_eq_true rfl⟩) hS (fun q _ h => hFc q h) hFc (fun r_5 u_5 t H1 locs ht hvm hw hB hz1 hk1 hS => ?_)
  obtain ⟨rfl, rfl⟩ := hw
  obtain ⟨hP1, hK1, hD1⟩ := hB
  rw [ht] at hP1
  obtain ⟨hP, hD⟩ := va_join (wr := [(a_clashesOf, .inl (cJ, 60, .inr (.inl v_clashesOf)))]) (w1 := ws_X2_uncovered cB cI cJ cZ a_this a_due a_rowsOf a_columnsOf a_colours a_clashesOf v_columnCount v_neededCount v_rowCount v_due v_rowsOf) hP hD [0, 1, 2] [3] rfl rfl (by decide) (by decide) hk1 hFc hP1 hD1
  generalize H1 = H at hP hS ⊢
  have hP : va_P (dC, dI) vwCl (ws_X2_fitting cB cI cJ cZ a_this a_due a_rowsOf a_clashesOf a_columnsOf a_colours v_columnCount v_neededCount v_rowCount v_due v_rowsOf v_clashesOf) H := hP.sub [1, 2, 3, 0] rfl
  have hD : va_D A (ws_X2_fitting cB cI cJ cZ a_this a_due a_rowsOf a_clashesOf a_columnsOf a_colours v_columnCount v_neededCount v_rowCount v_due v_rowsOf v_clashesOf) := hD.sub [1, 2, 3, 0] (by decide) rfl
  refine lv_iconst (v := -1) hx hb dX2_fitting_12 (by decide) ?_
  refine lv_ixor hx hb dX2_fitting_13 ?_
  refine lv_iand hx hb dX2_fitting_14 ?_
  refine lv_istore (lv' := [(4, .int (o_4.1 &&& (o_5.1 ^^^ (-1 : Int32)))), (3, .int o_4.1), (0, .ref a_this), (1, .long x1)]) hx hb dX2_fitting_15 hl (by decide) rfl (fun ls hl => ?_)
  refine lv_aload_n hx hb dX2_fitting_17 rfl (lv_at hl 2 rfl) ?_
  refine lv_iload_n hx hb dX2_fitting_18 rfl (lv_at hl 1 rfl) ?_
  obtain ⟨o_6, ho_6, hf⟩ := gd_bd hf
  have hPc := hP.sub (ws' := ws_X2_rowsWithAny cB cI cJ cZ a_this a_rowsOf a_due a_columnsOf a_colours a_clashesOf v_columnCount v_neededCount v_rowCount v_rowsOf) [0, 2] rfl
  have hDc := hD.sub (ws' := ws_X2_rowsWithAny cB cI cJ cZ a_this a_rowsOf a_due a_columnsOf a_colours a_clashesOf v_columnCount v_neededCount v_rowCount v_rowsOf) [0, 2] (by decide) rfl
  have hFc := va_free (wc := ws_X2_rowsWithAny cB cI cJ cZ a_this a_rowsOf a_due a_columnsOf a_colours a_clashesOf v_columnCount v_neededCount v_rowCount v_rowsOf) hD hS hA [0, 2] rfl
  refine va_calll (va_runV (As := [.int o_4.1]) (rest := []) ⟨hx, hb, hml, hown, hts⟩ (c_X2_rowsWithAny l dC dI cB cI cJ cZ a_this a_rowsOf a_due a_columnsOf a_colours a_clashesOf H.size v_columnCount v_neededCount v_rowCount v_rowsOf o_4.1 o_6 ho_6) (cwV 1 hts gX2_fitting_X2_rowsWithAny rfl rfl rfl ⟨rfl, nd_X2_rowsWithAny⟩ ⟨Nat.le_of_ble_eq_true rfl, Nat.le_of_ble_eq_true rfl⟩) ⟨fun a U g mk q => by obtain ⟨q0, q1, qP, qK, qD⟩ := q; exact ⟨q0, q1, qP, va_K.moved (u := U) (U := U.calling g mk a) (Vm.Alike.refl U.vm) qK, qD⟩, va_recv hK hPc (ci := 3) (q0 := 0) rfl rfl, fun U hU hW => ⟨rfl, by rw [hU], by rw [hU]; exact hPc, va_K.moved hW.alike hK, hDc.weaken (fun _ _ _ _ => trivial)⟩⟩ rfl rfl hl.1 rfl (lv_room (Nat.le_of_ble_eq_true rfl)) dX2_fitting_19 ⟨Nat.le_of_ble_eq_true rfl, Nat.le_of_ble_eq_true rfl⟩) hS (fun q _ h => hFc q h) hFc (fun r_6 u_6 t H1 locs ht hvm hw hB hz1 hk1 hS => ?_)
  obtain ⟨rfl, rfl⟩ := hw
  obtain ⟨hP1, hK1, hD1⟩ := hB
  rw [ht] at hP1
  obtain ⟨hP, hD⟩ := va_join (wr := [(a_due, .inl (cI, 24, .inl v_due)), (a_clashesOf, .inl (cJ, 60, .inr (.inl v_clashesOf)))]) (w1 := ws_X2_rowsWithAny cB cI cJ cZ a_this a_rowsOf a_due a_columnsOf a_colours a_clashesOf v_columnCount v_neededCount v_rowCount v_rowsOf) hP hD [0, 2] [1, 3] rfl rfl (by decide) (by decide) hk1 hFc hP1 hD1
  generalize H1 = H at hP hS ⊢
  have hP : va_P (dC, dI) vwCl (ws_X2_fitting cB cI cJ cZ a_this a_due a_rowsOf a_clashesOf a_columnsOf a_colours v_columnCount v_neededCount v_rowCount v_due v_rowsOf v_clashesOf) H := hP.sub [2, 0, 3, 1] rfl
  have hD : va_D A (ws_X2_fitting cB cI cJ cZ a_this a_due a_rowsOf a_clashesOf a_columnsOf a_colours v_columnCount v_neededCount v_rowCount v_due v_rowsOf v_clashesOf) := hD.sub [2, 0, 3, 1] (by decide) rfl
  refine lv_lload_n hx hb dX2_fitting_22 rfl (lv_at hl 3 rfl) ?_
  refine lv_ldc2 hx hb hown (hts (.constantLong RX2 77 (-1)) lk_X2_fitting_c77) dX2_fitting_23 ?_
  refine lv_lxor hx hb dX2_fitting_26 ?_
  refine lv_land hx hb dX2_fitting_27 ?_
  refine lv_aload_n hx hb dX2_fitting_28 rfl (lv_at hl 2 rfl) ?_
  refine lv_iload hx hb dX2_fitting_29 (lv_at hl 0 rfl) ?_
  obtain ⟨o_7, ho_7, hf⟩ := gd_bd hf
  have hPc := hP.sub (ws' := ws_X2_rowsWithAny cB cI cJ cZ a_this a_rowsOf a_due a_columnsOf a_colours a_clashesOf v_columnCount v_neededCount v_rowCount v_rowsOf) [0, 2] rfl
  have hDc := hD.sub (ws' := ws_X2_rowsWithAny cB cI cJ cZ a_this a_rowsOf a_due a_columnsOf a_colours a_clashesOf v_columnCount v_neededCount v_rowCount v_rowsOf) [0, 2] (by decide) rfl
  have hFc := va_free (wc := ws_X2_rowsWithAny cB cI cJ cZ a_this a_rowsOf a_due a_columnsOf a_colours a_clashesOf v_columnCount v_neededCount v_rowCount v_rowsOf) hD hS hA [0, 2] rfl
  refine va_calll (va_runV (As := [.int (o_4.1 &&& (o_5.1 ^^^ (-1 : Int32)))]) (rest := [.long (o_6.1 &&& (x1 ^^^ (-1 : Int64)))]) ⟨hx, hb, hml, hown, hts⟩ (c_X2_rowsWithAny l dC dI cB cI cJ cZ a_this a_rowsOf a_due a_columnsOf a_colours a_clashesOf H.size v_columnCount v_neededCount v_rowCount v_rowsOf (o_4.1 &&& (o_5.1 ^^^ (-1 : Int32))) o_7 ho_7) (cwV 1 hts gX2_fitting_X2_rowsWithAny rfl rfl rfl ⟨rfl, nd_X2_rowsWithAny⟩ ⟨Nat.le_of_ble_eq_true rfl, Nat.le_of_ble_eq_true rfl⟩) ⟨fun a U g mk q => by obtain ⟨q0, q1, qP, qK, qD⟩ := q; exact ⟨q0, q1, qP, va_K.moved (u := U) (U := U.calling g mk a) (Vm.Alike.refl U.vm) qK, qD⟩, va_recv hK hPc (ci := 3) (q0 := 0) rfl rfl, fun U hU hW => ⟨rfl, by rw [hU], by rw [hU]; exact hPc, va_K.moved hW.alike hK, hDc.weaken (fun _ _ _ _ => trivial)⟩⟩ rfl rfl hl.1 rfl (lv_room (Nat.le_of_ble_eq_true rfl)) dX2_fitting_31 ⟨Nat.le_of_ble_eq_true rfl, Nat.le_of_ble_eq_true rfl⟩) hS (fun q _ h => hFc q h) hFc (fun r_7 u_7 t H1 locs ht hvm hw hB hz1 hk1 hS => ?_)
  obtain ⟨rfl, rfl⟩ := hw
  obtain ⟨hP1, hK1, hD1⟩ := hB
  rw [ht] at hP1
  obtain ⟨hP, hD⟩ := va_join (wr := [(a_due, .inl (cI, 24, .inl v_due)), (a_clashesOf, .inl (cJ, 60, .inr (.inl v_clashesOf)))]) (w1 := ws_X2_rowsWithAny cB cI cJ cZ a_this a_rowsOf a_due a_columnsOf a_colours a_clashesOf v_columnCount v_neededCount v_rowCount v_rowsOf) hP hD [0, 2] [1, 3] rfl rfl (by decide) (by decide) hk1 hFc hP1 hD1
  generalize H1 = H at hP hS ⊢
  have hP : va_P (dC, dI) vwCl (ws_X2_fitting cB cI cJ cZ a_this a_due a_rowsOf a_clashesOf a_columnsOf a_colours v_columnCount v_neededCount v_rowCount v_due v_rowsOf v_clashesOf) H := hP.sub [2, 0, 3, 1] rfl
  have hD : va_D A (ws_X2_fitting cB cI cJ cZ a_this a_due a_rowsOf a_clashesOf a_columnsOf a_colours v_columnCount v_neededCount v_rowCount v_due v_rowsOf v_clashesOf) := hD.sub [2, 0, 3, 1] (by decide) rfl
  refine lv_ldc2 hx hb hown (hts (.constantLong RX2 77 (-1)) lk_X2_fitting_c77) dX2_fitting_34 ?_
  refine lv_lxor hx hb dX2_fitting_37 ?_
  refine lv_land hx hb dX2_fitting_38 ?_
  refine lv_lstore (lv' := [(5, .long ((o_6.1 &&& (x1 ^^^ (-1 : Int64))) &&& (o_7.1 ^^^ (-1 : Int64)))), (4, .int (o_4.1 &&& (o_5.1 ^^^ (-1 : Int32)))), (3, .int o_4.1), (0, .ref a_this), (1, .long x1)]) hx hb dX2_fitting_39 hl (by decide) rfl (fun ls hl => ?_)
  refine lv_iconst (v := 0) hx hb dX2_fitting_41 (by decide) ?_
  refine lv_istore (lv' := [(7, .int (0 : Int32)), (5, .long ((o_6.1 &&& (x1 ^^^ (-1 : Int64))) &&& (o_7.1 ^^^ (-1 : Int64)))), (4, .int (o_4.1 &&& (o_5.1 ^^^ (-1 : Int32)))), (3, .int o_4.1), (0, .ref a_this), (1, .long x1)]) hx hb dX2_fitting_42 hl (by decide) rfl (fun ls hl => ?_)
  exact w_X2_fitting_44 C0 hK 1000000 x1 ((o_6.1 &&& (x1 ^^^ (-1 : Int64))) &&& (o_7.1 ^^^ (-1 : Int64))) (0 : Int32) hf _ _ hP hD hS ls (lv_sub hl [4, 5, 1, 0] rfl)
theorem nd_X2_fitting : yX2_fitting.cls ≠ "java/lang/invoke/MethodHandle" ∧ yX2_fitting.cls ≠ "java/lang/invoke/VarHandle" ∧ (parseMethodDescriptor yX2_fitting.desc).map (fun d => d.parameters.length) = some 1 := by decide +kernel
set_option maxHeartbeats 4000000 in
set_option maxRecDepth 100000 in
theorem c_X2_fitting (l : Launch) (dC : Nat → ClassId) (dI : Nat → Nat → Nat) (cB cI cJ cZ : ClassId) (a_this a_due a_rowsOf a_clashesOf a_columnsOf a_colours : Nat) (sz : Nat) (v_columnCount : Int32) (v_neededCount : Int32) (v_rowCount : Int32) (v_due : (Nat → Int32)) (v_rowsOf : (Nat → Int64)) (v_clashesOf : (Nat → Int64)) (x1 : Int64) (out : Int64 × Unit) (hf : f_X2_fitting v_columnCount v_neededCount v_rowCount v_due v_rowsOf v_clashesOf x1 = some out) : Met l yX2_fitting wsX2_fitting rm_X2_fitting (va_Pc [.ref a_this, .long x1] (fun U => U.heap.size = sz ∧ va_P (dC, dI) vwCl (ws_X2_fitting cB cI cJ cZ a_this a_due a_rowsOf a_clashesOf a_columnsOf a_colours v_columnCount v_neededCount v_rowCount v_due v_rowsOf v_clashesOf) U.heap ∧ va_K (dC, dI) vwCl (tysG cB cI cJ cZ) U ∧ va_D (fun _ => True) (ws_X2_fitting cB cI cJ cZ a_this a_due a_rowsOf a_clashesOf a_columnsOf a_colours v_columnCount v_neededCount v_rowCount v_due v_rowsOf v_clashesOf))) (qc_X2_fitting (va_A (ws_X2_fitting cB cI cJ cZ a_this a_due a_rowsOf a_clashesOf a_columnsOf a_colours v_columnCount v_neededCount v_rowCount v_due v_rowsOf v_clashesOf) sz) dC dI cB cI cJ cZ a_this a_due a_rowsOf a_clashesOf a_columnsOf a_colours v_columnCount v_neededCount v_rowCount v_due v_rowsOf v_clashesOf out) 0 0 (va_A (ws_X2_fitting cB cI cJ cZ a_this a_due a_rowsOf a_clashesOf a_columnsOf a_colours v_columnCount v_neededCount v_rowCount v_due v_rowsOf v_clashesOf) sz) := by
  refine Met.ofW (cc := cX2_fitting) (maxL := 8) (ret := (some .long)) (by decide) rfl ?_
  intro p e s m args below meth c s₁ B hml hv
  obtain ⟨rfl, hsz, hP, hK, hD0⟩ := hv
  subst hsz
  have hD := hD0.self (sz := s.heap.size)
  generalize hAe : va_A (ws_X2_fitting cB cI cJ cZ a_this a_due a_rowsOf a_clashesOf a_columnsOf a_colours v_columnCount v_neededCount v_rowCount v_due v_rowsOf v_clashesOf) s.heap.size = A at hD ⊢
  have hA : ∀ q : Nat, s.heap.size ≤ q → A q := fun q h => by rw [← hAe]; exact Or.inr h
  have hl := lv_entry ([.ref a_this, .long x1]) (n := 8) (Nat.le_of_ble_eq_true rfl)
  rw [lg_entry_eq]
  generalize (lg_sl ([.ref a_this, .long x1]) ++ List.replicate (8 - (lg_sl ([.ref a_this, .long x1])).length) Slot.unset).toArray = ls at hl ⊢
  have hl : lv_has ls 8 [(0, .ref a_this), (1, .long x1)] := hl
  exact w_X2_fitting_0 ⟨B.exec, B.bytes, B.returns, hml, findClass_of_methodNamed B.named, atoms_spec (ws := wsX2_fitting) B.pre, B.notSynchronized, hA⟩ hK x1 hf _ _ hP hD va_S.rf ls (lv_sub hl [0, 1] rfl)
-- X2.columnOfFewest(IJ)I: 35 instructions
theorem in_X2_columnOfFewest_X2 : ∀ w ∈ wsX20, w ∈ wsX2_columnOfFewest := by decide +kernel
abbrev ws_X2_columnOfFewest (cB cI cJ cZ : ClassId) (a_this a_rowsOf a_due a_columnsOf a_colours a_clashesOf : Nat) (v_columnCount : Int32) (v_neededCount : Int32) (v_rowCount : Int32) (v_rowsOf : (Nat → Int64)) : va_W := [(a_this, .inr (3, [.int v_columnCount, .int v_neededCount, .ref a_due, .ref a_columnsOf, .ref a_colours, .ref a_rowsOf, .ref a_clashesOf, .int v_rowCount])), (a_rowsOf, .inl (cJ, 24, .inr (.inl v_rowsOf)))]
abbrev rm_X2_columnOfFewest : Room := { frames := 1, cells := 0, slots := 0, locals := 21 }
theorem lk_X2_columnOfFewest_f30 : Cond.fieldLink RX2 30 "LinkedCovers$Table" "neededCount" "I" ∈ wsX2_columnOfFewest := by decide +kernel
theorem lk_X2_columnOfFewest_f19 : Cond.fieldLink RX2 19 "LinkedCovers$Table" "rowsOf" "[J" ∈ wsX2_columnOfFewest := by decide +kernel
def f_X2_columnOfFewest_57 (v_neededCount : Int32) (v_rowsOf : (Nat → Int64)) (k_10 : Int32 → Int64 → Int32 → Int32 → Int32 → Option (Int32 × Unit)) (x1 : Int32) (x2 : Int64) (x4 : Int32) (x5 : Int32) (x6 : Int32) : Option (Int32 × Unit) :=
  k_10 x1 x2 x4 x5 (x6 + 1)
def f_X2_columnOfFewest_10 (v_neededCount : Int32) (v_rowsOf : (Nat → Int64))  : Nat → Int32 → Int64 → Int32 → Int32 → Int32 → Option (Int32 × Unit)
  | 0 => fun _ _ _ _ _ => none
  | n + 1 => fun x1 x2 x4 x5 x6 => if v_neededCount ≤ x6 then
  (some ((x4, ())))
  else
  (if ((x1 >>> (x6 &&& 31)) &&& (1 : Int32)) = 0 then
  (f_X2_columnOfFewest_57 v_neededCount v_rowsOf (f_X2_columnOfFewest_10 v_neededCount v_rowsOf n) x1 x2 x4 x5 x6)
  else
  (if (x6 < 0 ∨ 24 ≤ Int32.toNatClampNeg x6) then none else
  (f_J13_bitCount_95d88 ((v_rowsOf (Int32.toNatClampNeg x6)) &&& x2)).bind (fun o_4 =>
  if x5 ≤ o_4.1 then
  (f_X2_columnOfFewest_57 v_neededCount v_rowsOf (f_X2_columnOfFewest_10 v_neededCount v_rowsOf n) x1 x2 x4 x5 x6)
  else
  (f_X2_columnOfFewest_57 v_neededCount v_rowsOf (f_X2_columnOfFewest_10 v_neededCount v_rowsOf n) x1 x2 x6 o_4.1 x6))))
def f_X2_columnOfFewest (v_neededCount : Int32) (v_rowsOf : (Nat → Int64))  (x1 : Int32) (x2 : Int64) : Option (Int32 × Unit) :=
  f_X2_columnOfFewest_10 v_neededCount v_rowsOf 1000000 x1 x2 (-1 : Int32) (61 : Int32) (0 : Int32)
abbrev qc_X2_columnOfFewest (A : Nat → Prop) (dC : Nat → ClassId) (dI : Nat → Nat → Nat) (cB cI cJ cZ : ClassId) (a_this a_rowsOf a_due a_columnsOf a_colours a_clashesOf : Nat) (v_columnCount : Int32) (v_neededCount : Int32) (v_rowCount : Int32) (v_rowsOf : (Nat → Int64)) (out : Int32 × Unit) : Array Value → State → Outcome → State → Prop := va_Qi (fun (r : Int32) (u : Unit) => r = out.1 ∧ u = out.2) (fun (u : Unit) (t : State) => va_P (dC, dI) vwCl (ws_X2_columnOfFewest cB cI cJ cZ a_this a_rowsOf a_due a_columnsOf a_colours a_clashesOf v_columnCount v_neededCount v_rowCount v_rowsOf) t.heap ∧ va_K (dC, dI) vwCl (tysG cB cI cJ cZ) t ∧ va_D A (ws_X2_columnOfFewest cB cI cJ cZ a_this a_rowsOf a_due a_columnsOf a_colours a_clashesOf v_columnCount v_neededCount v_rowCount v_rowsOf)) A
abbrev g_X2_columnOfFewest_57 (p : Program) (l : Launch) (e : Env) (s : State) (m : MethodId) (args : Array Value) (below : List Frame) (meth : Method) (c : Code) (A : Nat → Prop) (dC : Nat → ClassId) (dI : Nat → Nat → Nat) (cB cI cJ cZ : ClassId) (a_this a_rowsOf a_due a_columnsOf a_colours a_clashesOf : Nat) (v_columnCount : Int32) (v_neededCount : Int32) (v_rowCount : Int32) (v_rowsOf : (Nat → Int64)) (out : Int32 × Unit) (k : Int32 → Int64 → Int32 → Int32 → Int32 → Option (Int32 × Unit)) : Prop := ∀ (x1 : Int32) (x2 : Int64) (x4 : Int32) (x5 : Int32) (x6 : Int32), k x1 x2 x4 x5 x6 = some out → ∀ (H : Heap) (locs : List Loc), va_P (dC, dI) vwCl (ws_X2_columnOfFewest cB cI cJ cZ a_this a_rowsOf a_due a_columnsOf a_colours a_clashesOf v_columnCount v_neededCount v_rowCount v_rowsOf) H → va_D A (ws_X2_columnOfFewest cB cI cJ cZ a_this a_rowsOf a_due a_columnsOf a_colours a_clashesOf v_columnCount v_neededCount v_rowCount v_rowsOf) → va_S A s.heap H locs → ∀ (ls : Array Slot), lv_has ls 8 [(0, .ref a_this), (1, .int x1), (2, .long x2), (4, .int x4), (5, .int x5), (6, .int x6)] → W p l e (headSpec wsX2_columnOfFewest rm_X2_columnOfFewest).room s m args below meth c H locs 0 0 (MQ below (qc_X2_columnOfFewest A dC dI cB cI cJ cZ a_this a_rowsOf a_due a_columnsOf a_colours a_clashesOf v_columnCount v_neededCount v_rowCount v_rowsOf out) args s 0 0 A) (F0 m 57 ls [])
abbrev g_X2_columnOfFewest_10 (p : Program) (l : Launch) (e : Env) (s : State) (m : MethodId) (args : Array Value) (below : List Frame) (meth : Method) (c : Code) (A : Nat → Prop) (dC : Nat → ClassId) (dI : Nat → Nat → Nat) (cB cI cJ cZ : ClassId) (a_this a_rowsOf a_due a_columnsOf a_colours a_clashesOf : Nat) (v_columnCount : Int32) (v_neededCount : Int32) (v_rowCount : Int32) (v_rowsOf : (Nat → Int64)) (out : Int32 × Unit) (k : Int32 → Int64 → Int32 → Int32 → Int32 → Option (Int32 × Unit)) : Prop := ∀ (x1 : Int32) (x2 : Int64) (x4 : Int32) (x5 : Int32) (x6 : Int32), k x1 x2 x4 x5 x6 = some out → ∀ (H : Heap) (locs : List Loc), va_P (dC, dI) vwCl (ws_X2_columnOfFewest cB cI cJ cZ a_this a_rowsOf a_due a_columnsOf a_colours a_clashesOf v_columnCount v_neededCount v_rowCount v_rowsOf) H → va_D A (ws_X2_columnOfFewest cB cI cJ cZ a_this a_rowsOf a_due a_columnsOf a_colours a_clashesOf v_columnCount v_neededCount v_rowCount v_rowsOf) → va_S A s.heap H locs → ∀ (ls : Array Slot), lv_has ls 8 [(0, .ref a_this), (1, .int x1), (2, .long x2), (4, .int x4), (5, .int x5), (6, .int x6)] → W p l e (headSpec wsX2_columnOfFewest rm_X2_columnOfFewest).room s m args below meth c H locs 0 0 (MQ below (qc_X2_columnOfFewest A dC dI cB cI cJ cZ a_this a_rowsOf a_due a_columnsOf a_colours a_clashesOf v_columnCount v_neededCount v_rowCount v_rowsOf out) args s 0 0 A) (F0 m 10 ls [])
abbrev g_X2_columnOfFewest_0 (p : Program) (l : Launch) (e : Env) (s : State) (m : MethodId) (args : Array Value) (below : List Frame) (meth : Method) (c : Code) (A : Nat → Prop) (dC : Nat → ClassId) (dI : Nat → Nat → Nat) (cB cI cJ cZ : ClassId) (a_this a_rowsOf a_due a_columnsOf a_colours a_clashesOf : Nat) (v_columnCount : Int32) (v_neededCount : Int32) (v_rowCount : Int32) (v_rowsOf : (Nat → Int64)) (out : Int32 × Unit) (k : Int32 → Int64 → Option (Int32 × Unit)) : Prop := ∀ (x1 : Int32) (x2 : Int64), k x1 x2 = some out → ∀ (H : Heap) (locs : List Loc), va_P (dC, dI) vwCl (ws_X2_columnOfFewest cB cI cJ cZ a_this a_rowsOf a_due a_columnsOf a_colours a_clashesOf v_columnCount v_neededCount v_rowCount v_rowsOf) H → va_D A (ws_X2_columnOfFewest cB cI cJ cZ a_this a_rowsOf a_due a_columnsOf a_colours a_clashesOf v_columnCount v_neededCount v_rowCount v_rowsOf) → va_S A s.heap H locs → ∀ (ls : Array Slot), lv_has ls 8 [(0, .ref a_this), (1, .int x1), (2, .long x2)] → W p l e (headSpec wsX2_columnOfFewest rm_X2_columnOfFewest).room s m args below meth c H locs 0 0 (MQ below (qc_X2_columnOfFewest A dC dI cB cI cJ cZ a_this a_rowsOf a_due a_columnsOf a_colours a_clashesOf v_columnCount v_neededCount v_rowCount v_rowsOf out) args s 0 0 A) (F0 m 0 ls [])
set_option maxHeartbeats 4000000 in
set_option maxRecDepth 100000 in
theorem w_X2_columnOfFewest_57 {p : Program} {l : Launch} {e : Env} {s : State} {m : MethodId} {args : Array Value} {below : List Frame} {meth : Method} {c : Code} {A : Nat → Prop} {dC : Nat → ClassId} {dI : Nat → Nat → Nat} {cB cI cJ cZ : ClassId} {a_this a_rowsOf a_due a_columnsOf a_colours a_clashesOf : Nat} {v_columnCount : Int32} {v_neededCount : Int32} {v_rowCount : Int32} {v_rowsOf : (Nat → Int64)} {out : Int32 × Unit} (C0 : Cx RX2 cX2_columnOfFewest (some .int) 8 wsX2_columnOfFewest p s m args meth c A) (hK : va_K (dC, dI) vwCl (tysG cB cI cJ cZ) s) {k_10 : Int32 → Int64 → Int32 → Int32 → Int32 → Option (Int32 × Unit)} (hk_10 : g_X2_columnOfFewest_10 p l e s m args below meth c A dC dI cB cI cJ cZ a_this a_rowsOf a_due a_columnsOf a_colours a_clashesOf v_columnCount v_neededCount v_rowCount v_rowsOf out k_10) : g_X2_columnOfFewest_57 p l e s m args below meth c A dC dI cB cI cJ cZ a_this a_rowsOf a_due a_columnsOf a_colours a_clashesOf v_columnCount v_neededCount v_rowCount v_rowsOf out (f_X2_columnOfFewest_57 v_neededCount v_rowsOf k_10) := by
  obtain ⟨hx, hb, hr, hml, hown, hts, hlocks, hA⟩ := id C0
  intro x1 x2 x4 x5 x6 hf H locs hP hD hS ls hl
  replace hf : ((k_10 x1 x2 x4 x5 (x6 + 1)) : Option (Int32 × Unit)) = some out := hf
  refine lv_iinc (v := (x6 + 1)) (lv' := [(6, .int (x6 + 1)), (0, .ref a_this), (1, .int x1), (2, .long x2), (4, .int x4), (5, .int x5)]) hx hb dX2_columnOfFewest_57 hl (k := 5) rfl rfl (by decide) rfl (fun ls hl => ?_)
  refine lv_goto (tgt := 10) hx hb dX2_columnOfFewest_60 (by decide) ?_
  exact hk_10 x1 x2 x4 x5 (x6 + 1) hf _ _ hP hD hS ls (lv_sub hl [1, 2, 3, 4, 5, 0] rfl)
set_option maxHeartbeats 4000000 in
set_option maxRecDepth 100000 in
theorem w_X2_columnOfFewest_10 {p : Program} {l : Launch} {e : Env} {s : State} {m : MethodId} {args : Array Value} {below : List Frame} {meth : Method} {c : Code} {A : Nat → Prop} {dC : Nat → ClassId} {dI : Nat → Nat → Nat} {cB cI cJ cZ : ClassId} {a_this a_rowsOf a_due a_columnsOf a_colours a_clashesOf : Nat} {v_columnCount : Int32} {v_neededCount : Int32} {v_rowCount : Int32} {v_rowsOf : (Nat → Int64)} {out : Int32 × Unit} (C0 : Cx RX2 cX2_columnOfFewest (some .int) 8 wsX2_columnOfFewest p s m args meth c A) (hK : va_K (dC, dI) vwCl (tysG cB cI cJ cZ) s)  : ∀ n : Nat, g_X2_columnOfFewest_10 p l e s m args below meth c A dC dI cB cI cJ cZ a_this a_rowsOf a_due a_columnsOf a_colours a_clashesOf v_columnCount v_neededCount v_rowCount v_rowsOf out (f_X2_columnOfFewest_10 v_neededCount v_rowsOf  n) := by
  obtain ⟨hx, hb, hr, hml, hown, hts, hlocks, hA⟩ := id C0
  intro n
  induction n with
  | zero =>
    intro x1 x2 x4 x5 x6 hf H locs hP hD hS ls hl
    exact nomatch (show (none : Option (Int32 × Unit)) = some out from hf)
  | succ n ih =>
    intro x1 x2 x4 x5 x6 hf H locs hP hD hS ls hl
    replace hf : ((if v_neededCount ≤ x6 then
  (some ((x4, ())))
  else
  (if ((x1 >>> (x6 &&& 31)) &&& (1 : Int32)) = 0 then
  (f_X2_columnOfFewest_57 v_neededCount v_rowsOf (f_X2_columnOfFewest_10 v_neededCount v_rowsOf n) x1 x2 x4 x5 x6)
  else
  (if (x6 < 0 ∨ 24 ≤ Int32.toNatClampNeg x6) then none else
  (f_J13_bitCount_95d88 ((v_rowsOf (Int32.toNatClampNeg x6)) &&& x2)).bind (fun o_4 =>
  if x5 ≤ o_4.1 then
  (f_X2_columnOfFewest_57 v_neededCount v_rowsOf (f_X2_columnOfFewest_10 v_neededCount v_rowsOf n) x1 x2 x4 x5 x6)
  else
  (f_X2_columnOfFewest_57 v_neededCount v_rowsOf (f_X2_columnOfFewest_10 v_neededCount v_rowsOf n) x1 x2 x6 o_4.1 x6))))) : Option (Int32 × Unit)) = some out := hf
    refine lv_iload hx hb dX2_columnOfFewest_10 (lv_at hl 5 rfl) ?_
    refine lv_aload_n hx hb dX2_columnOfFewest_12 rfl (lv_at hl 0 rfl) ?_
    refine va_get (D := (dC, dI)) (ci := 3) (v := .int v_neededCount) (C := RX2) (T := TX2) (N := 8) hx hb hts in_X2_columnOfFewest_X2 hown hK hP 0 rfl rfl 1 (by decide) (hts (.fieldLink RX2 30 "LinkedCovers$Table" "neededCount" "I") lk_X2_columnOfFewest_f30) (fun _ h9 => h9) rfl dX2_columnOfFewest_13 ?_
    refine lv_icmp_ge (tgt := 63) hx hb dX2_columnOfFewest_16 (by decide) (fun c_1 => ?_) (fun c_1 => ?_)
    · replace hf := (if_pos c_1).symm.trans hf
      refine lv_iload hx hb dX2_columnOfFewest_63 (lv_at hl 3 rfl) ?_
      have h9 := Option.some.inj hf
      have h8 := congrArg Prod.fst h9
      have h7 := congrArg Prod.snd h9
      exact W.iret (v := x4) hx hb hr (fun t ht hW => ⟨⟨x4, (), rfl, ⟨h8, h7⟩, by rw [ht]; exact hP, va_K.moved hW.alike hK, hD⟩, hS.F ht⟩) hS.2.2 dX2_columnOfFewest_65
    · replace hf := (if_neg c_1).symm.trans hf
      refine lv_iload_n hx hb dX2_columnOfFewest_19 rfl (lv_at hl 1 rfl) ?_
      refine lv_iload hx hb dX2_columnOfFewest_20 (lv_at hl 5 rfl) ?_
      refine lv_ishr hx hb dX2_columnOfFewest_22 ?_
      refine lv_iconst (v := 1) hx hb dX2_columnOfFewest_23 (by decide) ?_
      refine lv_iand hx hb dX2_columnOfFewest_24 ?_
      refine lv_if_eq (tgt := 57) hx hb dX2_columnOfFewest_25 (by decide) (fun c_2 => ?_) (fun c_2 => ?_)
      · replace hf := (if_pos c_2).symm.trans hf
        exact w_X2_columnOfFewest_57 C0 hK ih x1 x2 x4 x5 x6 hf _ _ hP hD hS ls (lv_sub hl [0, 1, 2, 3, 4, 5] rfl)
      · replace hf := (if_neg c_2).symm.trans hf
        refine lv_aload_n hx hb dX2_columnOfFewest_28 rfl (lv_at hl 0 rfl) ?_
        refine va_get (D := (dC, dI)) (ci := 3) (v := .ref a_rowsOf) (C := RX2) (T := TX2) (N := 8) hx hb hts in_X2_columnOfFewest_X2 hown hK hP 0 rfl rfl 5 (by decide) (hts (.fieldLink RX2 19 "LinkedCovers$Table" "rowsOf" "[J") lk_X2_columnOfFewest_f19) (fun _ h9 => h9) rfl dX2_columnOfFewest_29 ?_
        refine lv_iload hx hb dX2_columnOfFewest_32 (lv_at hl 5 rfl) ?_
        obtain ⟨h_3, hf⟩ := gd_ck hf
        refine va_lald hx hb hK hP 1 2 rfl rfl h_3 dX2_columnOfFewest_34 ?_
        refine lv_lload_n hx hb dX2_columnOfFewest_35 rfl (lv_at hl 2 rfl) ?_
        refine lv_land hx hb dX2_columnOfFewest_36 ?_
        obtain ⟨o_4, ho_4, hf⟩ := gd_bd hf
        have hPc := hP.sub (ws' := ws_J13_bitCount_95d88 cB cI cJ cZ  ) [] rfl
        have hDc := hD.sub (ws' := ws_J13_bitCount_95d88 cB cI cJ cZ  ) [] (by decide) rfl
        have hFc := va_free (wc := ws_J13_bitCount_95d88 cB cI cJ cZ  ) hD hS hA [] rfl
        refine va_calli (va_runS (As := [.long ((v_rowsOf (Int32.toNatClampNeg x6)) &&& x2)]) (rest := []) ⟨hx, hb, hml, hown, hts⟩ (c_J13_bitCount_95d88 l dC dI cB cI cJ cZ H.size ((v_rowsOf (Int32.toNatClampNeg x6)) &&& x2) o_4 ho_4) (va_cwS 1 hts gX2_columnOfFewest_J13_bitCount_95d88 rfl rfl rfl nd_J13_bitCount_95d88 ⟨Nat.le_of_ble_eq_true rfl, Nat.le_of_ble_eq_true rfl⟩) ⟨fun a U g mk q => by obtain ⟨q0, q1, qP, qK, qD⟩ := q; exact ⟨q0, q1, qP, va_K.moved (u := U) (U := U.calling g mk a) (Vm.Alike.refl U.vm) qK, qD⟩, fun U hU hW => ⟨rfl, by rw [hU], by rw [hU]; exact hPc, va_K.moved hW.alike hK, hDc.weaken (fun _ _ _ _ => trivial)⟩⟩ rfl rfl hl.1 rfl (lv_room (Nat.le_of_ble_eq_true rfl)) dX2_columnOfFewest_37 ⟨Nat.le_of_ble_eq_true rfl, Nat.le_of_ble_eq_true rfl⟩) hS (fun q _ h => hFc q h) hFc (fun r_4 u_4 t H1 locs ht hvm hw hB hz1 hk1 hS => ?_)
        obtain ⟨rfl, rfl⟩ := hw
        obtain ⟨hP1, hK1, hD1⟩ := hB
        rw [ht] at hP1
        obtain ⟨hP, hD⟩ := va_join (wr := [(a_this, .inr (3, [.int v_columnCount, .int v_neededCount, .ref a_due, .ref a_columnsOf, .ref a_colours, .ref a_rowsOf, .ref a_clashesOf, .int v_rowCount])), (a_rowsOf, .inl (cJ, 24, .inr (.inl v_rowsOf)))]) (w1 := ws_J13_bitCount_95d88 cB cI cJ cZ  ) hP hD [] [0, 1] rfl rfl (by decide) (by decide) hk1 hFc hP1 hD1
        generalize H1 = H at hP hS ⊢
        have hP : va_P (dC, dI) vwCl (ws_X2_columnOfFewest cB cI cJ cZ a_this a_rowsOf a_due a_columnsOf a_colours a_clashesOf v_columnCount v_neededCount v_rowCount v_rowsOf) H := hP.sub [0, 1] rfl
        have hD : va_D A (ws_X2_columnOfFewest cB cI cJ cZ a_this a_rowsOf a_due a_columnsOf a_colours a_clashesOf v_columnCount v_neededCount v_rowCount v_rowsOf) := hD.sub [0, 1] (by decide) rfl
        refine lv_istore (lv' := [(7, .int o_4.1), (0, .ref a_this), (1, .int x1), (2, .long x2), (4, .int x4), (5, .int x5), (6, .int x6)]) hx hb dX2_columnOfFewest_40 hl (by decide) rfl (fun ls hl => ?_)
        refine lv_iload hx hb dX2_columnOfFewest_42 (lv_at hl 0 rfl) ?_
        refine lv_iload hx hb dX2_columnOfFewest_44 (lv_at hl 5 rfl) ?_
        refine lv_icmp_ge (tgt := 57) hx hb dX2_columnOfFewest_46 (by decide) (fun c_5 => ?_) (fun c_5 => ?_)
        · replace hf := (if_pos c_5).symm.trans hf
          exact w_X2_columnOfFewest_57 C0 hK ih x1 x2 x4 x5 x6 hf _ _ hP hD hS ls (lv_sub hl [1, 2, 3, 4, 5, 6] rfl)
        · replace hf := (if_neg c_5).symm.trans hf
          refine lv_iload hx hb dX2_columnOfFewest_49 (lv_at hl 6 rfl) ?_
          refine lv_istore (lv' := [(4, .int x6), (7, .int o_4.1), (0, .ref a_this), (1, .int x1), (2, .long x2), (5, .int x5), (6, .int x6)]) hx hb dX2_columnOfFewest_51 hl (by decide) rfl (fun ls hl => ?_)
          refine lv_iload hx hb dX2_columnOfFewest_53 (lv_at hl 1 rfl) ?_
          refine lv_istore (lv' := [(5, .int o_4.1), (4, .int x6), (7, .int o_4.1), (0, .ref a_this), (1, .int x1), (2, .long x2), (6, .int x6)]) hx hb dX2_columnOfFewest_55 hl (by decide) rfl (fun ls hl => ?_)
          exact w_X2_columnOfFewest_57 C0 hK ih x1 x2 x6 o_4.1 x6 hf _ _ hP hD hS ls (lv_sub hl [3, 4, 5, 1, 0, 6] rfl)
set_option maxHeartbeats 4000000 in
set_option maxRecDepth 100000 in
theorem w_X2_columnOfFewest_0 {p : Program} {l : Launch} {e : Env} {s : State} {m : MethodId} {args : Array Value} {below : List Frame} {meth : Method} {c : Code} {A : Nat → Prop} {dC : Nat → ClassId} {dI : Nat → Nat → Nat} {cB cI cJ cZ : ClassId} {a_this a_rowsOf a_due a_columnsOf a_colours a_clashesOf : Nat} {v_columnCount : Int32} {v_neededCount : Int32} {v_rowCount : Int32} {v_rowsOf : (Nat → Int64)} {out : Int32 × Unit} (C0 : Cx RX2 cX2_columnOfFewest (some .int) 8 wsX2_columnOfFewest p s m args meth c A) (hK : va_K (dC, dI) vwCl (tysG cB cI cJ cZ) s)  : g_X2_columnOfFewest_0 p l e s m args below meth c A dC dI cB cI cJ cZ a_this a_rowsOf a_due a_columnsOf a_colours a_clashesOf v_columnCount v_neededCount v_rowCount v_rowsOf out (f_X2_columnOfFewest v_neededCount v_rowsOf ) := by
  obtain ⟨hx, hb, hr, hml, hown, hts, hlocks, hA⟩ := id C0
  intro x1 x2 hf H locs hP hD hS ls hl
  replace hf : ((f_X2_columnOfFewest_10 v_neededCount v_rowsOf 1000000 x1 x2 (-1 : Int32) (61 : Int32) (0 : Int32)) : Option (Int32 × Unit)) = some out := hf
  refine lv_iconst (v := -1) hx hb dX2_columnOfFewest_0 (by decide) ?_
  refine lv_istore (lv' := [(4, .int (-1 : Int32)), (0, .ref a_this), (1, .int x1), (2, .long x2)]) hx hb dX2_columnOfFewest_1 hl (by decide) rfl (fun ls hl => ?_)
  refine lv_bipush (v := 61) hx hb dX2_columnOfFewest_3 (by decide) ?_
  refine lv_istore (lv' := [(5, .int (61 : Int32)), (4, .int (-1 : Int32)), (0, .ref a_this), (1, .int x1), (2, .long x2)]) hx hb dX2_columnOfFewest_5 hl (by decide) rfl (fun ls hl => ?_)
  refine lv_iconst (v := 0) hx hb dX2_columnOfFewest_7 (by decide) ?_
  refine lv_istore (lv' := [(6, .int (0 : Int32)), (5, .int (61 : Int32)), (4, .int (-1 : Int32)), (0, .ref a_this), (1, .int x1), (2, .long x2)]) hx hb dX2_columnOfFewest_8 hl (by decide) rfl (fun ls hl => ?_)
  exact w_X2_columnOfFewest_10 C0 hK 1000000 x1 x2 (-1 : Int32) (61 : Int32) (0 : Int32) hf _ _ hP hD hS ls (lv_sub hl [3, 4, 5, 2, 1, 0] rfl)
theorem nd_X2_columnOfFewest : yX2_columnOfFewest.cls ≠ "java/lang/invoke/MethodHandle" ∧ yX2_columnOfFewest.cls ≠ "java/lang/invoke/VarHandle" ∧ (parseMethodDescriptor yX2_columnOfFewest.desc).map (fun d => d.parameters.length) = some 2 := by decide +kernel
set_option maxHeartbeats 4000000 in
set_option maxRecDepth 100000 in
theorem c_X2_columnOfFewest (l : Launch) (dC : Nat → ClassId) (dI : Nat → Nat → Nat) (cB cI cJ cZ : ClassId) (a_this a_rowsOf a_due a_columnsOf a_colours a_clashesOf : Nat) (sz : Nat) (v_columnCount : Int32) (v_neededCount : Int32) (v_rowCount : Int32) (v_rowsOf : (Nat → Int64)) (x1 : Int32) (x2 : Int64) (out : Int32 × Unit) (hf : f_X2_columnOfFewest v_neededCount v_rowsOf x1 x2 = some out) : Met l yX2_columnOfFewest wsX2_columnOfFewest rm_X2_columnOfFewest (va_Pc [.ref a_this, .int x1, .long x2] (fun U => U.heap.size = sz ∧ va_P (dC, dI) vwCl (ws_X2_columnOfFewest cB cI cJ cZ a_this a_rowsOf a_due a_columnsOf a_colours a_clashesOf v_columnCount v_neededCount v_rowCount v_rowsOf) U.heap ∧ va_K (dC, dI) vwCl (tysG cB cI cJ cZ) U ∧ va_D (fun _ => True) (ws_X2_columnOfFewest cB cI cJ cZ a_this a_rowsOf a_due a_columnsOf a_colours a_clashesOf v_columnCount v_neededCount v_rowCount v_rowsOf))) (qc_X2_columnOfFewest (va_A (ws_X2_columnOfFewest cB cI cJ cZ a_this a_rowsOf a_due a_columnsOf a_colours a_clashesOf v_columnCount v_neededCount v_rowCount v_rowsOf) sz) dC dI cB cI cJ cZ a_this a_rowsOf a_due a_columnsOf a_colours a_clashesOf v_columnCount v_neededCount v_rowCount v_rowsOf out) 0 0 (va_A (ws_X2_columnOfFewest cB cI cJ cZ a_this a_rowsOf a_due a_columnsOf a_colours a_clashesOf v_columnCount v_neededCount v_rowCount v_rowsOf) sz) := by
  refine Met.ofW (cc := cX2_columnOfFewest) (maxL := 8) (ret := (some .int)) (by decide) rfl ?_
  intro p e s m args below meth c s₁ B hml hv
  obtain ⟨rfl, hsz, hP, hK, hD0⟩ := hv
  subst hsz
  have hD := hD0.self (sz := s.heap.size)
  generalize hAe : va_A (ws_X2_columnOfFewest cB cI cJ cZ a_this a_rowsOf a_due a_columnsOf a_colours a_clashesOf v_columnCount v_neededCount v_rowCount v_rowsOf) s.heap.size = A at hD ⊢
  have hA : ∀ q : Nat, s.heap.size ≤ q → A q := fun q h => by rw [← hAe]; exact Or.inr h
  have hl := lv_entry ([.ref a_this, .int x1, .long x2]) (n := 8) (Nat.le_of_ble_eq_true rfl)
  rw [lg_entry_eq]
  generalize (lg_sl ([.ref a_this, .int x1, .long x2]) ++ List.replicate (8 - (lg_sl ([.ref a_this, .int x1, .long x2])).length) Slot.unset).toArray = ls at hl ⊢
  have hl : lv_has ls 8 [(0, .ref a_this), (1, .int x1), (2, .long x2)] := hl
  exact w_X2_columnOfFewest_0 ⟨B.exec, B.bytes, B.returns, hml, findClass_of_methodNamed B.named, atoms_spec (ws := wsX2_columnOfFewest) B.pre, B.notSynchronized, hA⟩ hK x1 x2 hf _ _ hP hD va_S.rf ls (lv_sub hl [0, 1, 2] rfl)
-- X2.haveSameColours(II)Z: 29 instructions
theorem in_X2_haveSameColours_X2 : ∀ w ∈ wsX20, w ∈ wsX2_haveSameColours := by decide +kernel
abbrev ws_X2_haveSameColours (cB cI cJ cZ : ClassId) (a_this a_colours a_due a_columnsOf a_rowsOf a_clashesOf : Nat) (v_columnCount : Int32) (v_neededCount : Int32) (v_rowCount : Int32) (v_colours : (Nat → Int32)) : va_W := [(a_this, .inr (3, [.int v_columnCount, .int v_neededCount, .ref a_due, .ref a_columnsOf, .ref a_colours, .ref a_rowsOf, .ref a_clashesOf, .int v_rowCount])), (a_colours, .inl (cB, 1440, .inl v_colours))]
abbrev rm_X2_haveSameColours : Room := { frames := 0, cells := 0, slots := 0, locals := 0 }
theorem lk_X2_haveSameColours_f26 : Cond.fieldLink RX2 26 "LinkedCovers$Table" "columnCount" "I" ∈ wsX2_haveSameColours := by decide +kernel
theorem lk_X2_haveSameColours_f15 : Cond.fieldLink RX2 15 "LinkedCovers$Table" "colours" "[B" ∈ wsX2_haveSameColours := by decide +kernel
def f_X2_haveSameColours_2 (v_columnCount : Int32) (v_colours : (Nat → Int32))  : Nat → Int32 → Int32 → Int32 → Option (Int32 × Unit)
  | 0 => fun _ _ _ => none
  | n + 1 => fun x1 x2 x3 => if v_columnCount ≤ x3 then
  (some (((1 : Int32), ())))
  else
  (if (((x1 * (24 : Int32)) + x3) < 0 ∨ 1440 ≤ Int32.toNatClampNeg ((x1 * (24 : Int32)) + x3)) then none else
  if (((x2 * (24 : Int32)) + x3) < 0 ∨ 1440 ≤ Int32.toNatClampNeg ((x2 * (24 : Int32)) + x3)) then none else
  if (v_colours (Int32.toNatClampNeg ((x1 * (24 : Int32)) + x3))) = (v_colours (Int32.toNatClampNeg ((x2 * (24 : Int32)) + x3))) then
  (f_X2_haveSameColours_2 v_columnCount v_colours n x1 x2 (x3 + 1))
  else
  (some (((0 : Int32), ()))))
def f_X2_haveSameColours (v_columnCount : Int32) (v_colours : (Nat → Int32))  (x1 : Int32) (x2 : Int32) : Option (Int32 × Unit) :=
  f_X2_haveSameColours_2 v_columnCount v_colours 1000000 x1 x2 (0 : Int32)
abbrev qc_X2_haveSameColours (A : Nat → Prop) (dC : Nat → ClassId) (dI : Nat → Nat → Nat) (cB cI cJ cZ : ClassId) (a_this a_colours a_due a_columnsOf a_rowsOf a_clashesOf : Nat) (v_columnCount : Int32) (v_neededCount : Int32) (v_rowCount : Int32) (v_colours : (Nat → Int32)) (out : Int32 × Unit) : Array Value → State → Outcome → State → Prop := va_Qi (fun (r : Int32) (u : Unit) => r = out.1 ∧ u = out.2) (fun (u : Unit) (t : State) => va_P (dC, dI) vwCl (ws_X2_haveSameColours cB cI cJ cZ a_this a_colours a_due a_columnsOf a_rowsOf a_clashesOf v_columnCount v_neededCount v_rowCount v_colours) t.heap ∧ va_K (dC, dI) vwCl (tysG cB cI cJ cZ) t ∧ va_D A (ws_X2_haveSameColours cB cI cJ cZ a_this a_colours a_due a_columnsOf a_rowsOf a_clashesOf v_columnCount v_neededCount v_rowCount v_colours)) A
abbrev g_X2_haveSameColours_2 (p : Program) (l : Launch) (e : Env) (s : State) (m : MethodId) (args : Array Value) (below : List Frame) (meth : Method) (c : Code) (A : Nat → Prop) (dC : Nat → ClassId) (dI : Nat → Nat → Nat) (cB cI cJ cZ : ClassId) (a_this a_colours a_due a_columnsOf a_rowsOf a_clashesOf : Nat) (v_columnCount : Int32) (v_neededCount : Int32) (v_rowCount : Int32) (v_colours : (Nat → Int32)) (out : Int32 × Unit) (k : Int32 → Int32 → Int32 → Option (Int32 × Unit)) : Prop := ∀ (x1 : Int32) (x2 : Int32) (x3 : Int32), k x1 x2 x3 = some out → ∀ (H : Heap) (locs : List Loc), va_P (dC, dI) vwCl (ws_X2_haveSameColours cB cI cJ cZ a_this a_colours a_due a_columnsOf a_rowsOf a_clashesOf v_columnCount v_neededCount v_rowCount v_colours) H → va_D A (ws_X2_haveSameColours cB cI cJ cZ a_this a_colours a_due a_columnsOf a_rowsOf a_clashesOf v_columnCount v_neededCount v_rowCount v_colours) → va_S A s.heap H locs → ∀ (ls : Array Slot), lv_has ls 4 [(0, .ref a_this), (1, .int x1), (2, .int x2), (3, .int x3)] → W p l e (headSpec wsX2_haveSameColours rm_X2_haveSameColours).room s m args below meth c H locs 0 0 (MQ below (qc_X2_haveSameColours A dC dI cB cI cJ cZ a_this a_colours a_due a_columnsOf a_rowsOf a_clashesOf v_columnCount v_neededCount v_rowCount v_colours out) args s 0 0 A) (F0 m 2 ls [])
abbrev g_X2_haveSameColours_0 (p : Program) (l : Launch) (e : Env) (s : State) (m : MethodId) (args : Array Value) (below : List Frame) (meth : Method) (c : Code) (A : Nat → Prop) (dC : Nat → ClassId) (dI : Nat → Nat → Nat) (cB cI cJ cZ : ClassId) (a_this a_colours a_due a_columnsOf a_rowsOf a_clashesOf : Nat) (v_columnCount : Int32) (v_neededCount : Int32) (v_rowCount : Int32) (v_colours : (Nat → Int32)) (out : Int32 × Unit) (k : Int32 → Int32 → Option (Int32 × Unit)) : Prop := ∀ (x1 : Int32) (x2 : Int32), k x1 x2 = some out → ∀ (H : Heap) (locs : List Loc), va_P (dC, dI) vwCl (ws_X2_haveSameColours cB cI cJ cZ a_this a_colours a_due a_columnsOf a_rowsOf a_clashesOf v_columnCount v_neededCount v_rowCount v_colours) H → va_D A (ws_X2_haveSameColours cB cI cJ cZ a_this a_colours a_due a_columnsOf a_rowsOf a_clashesOf v_columnCount v_neededCount v_rowCount v_colours) → va_S A s.heap H locs → ∀ (ls : Array Slot), lv_has ls 4 [(0, .ref a_this), (1, .int x1), (2, .int x2)] → W p l e (headSpec wsX2_haveSameColours rm_X2_haveSameColours).room s m args below meth c H locs 0 0 (MQ below (qc_X2_haveSameColours A dC dI cB cI cJ cZ a_this a_colours a_due a_columnsOf a_rowsOf a_clashesOf v_columnCount v_neededCount v_rowCount v_colours out) args s 0 0 A) (F0 m 0 ls [])
set_option maxHeartbeats 4000000 in
set_option maxRecDepth 100000 in
theorem w_X2_haveSameColours_2 {p : Program} {l : Launch} {e : Env} {s : State} {m : MethodId} {args : Array Value} {below : List Frame} {meth : Method} {c : Code} {A : Nat → Prop} {dC : Nat → ClassId} {dI : Nat → Nat → Nat} {cB cI cJ cZ : ClassId} {a_this a_colours a_due a_columnsOf a_rowsOf a_clashesOf : Nat} {v_columnCount : Int32} {v_neededCount : Int32} {v_rowCount : Int32} {v_colours : (Nat → Int32)} {out : Int32 × Unit} (C0 : Cx RX2 cX2_haveSameColours (some .boolean) 4 wsX2_haveSameColours p s m args meth c A) (hK : va_K (dC, dI) vwCl (tysG cB cI cJ cZ) s)  : ∀ n : Nat, g_X2_haveSameColours_2 p l e s m args below meth c A dC dI cB cI cJ cZ a_this a_colours a_due a_columnsOf a_rowsOf a_clashesOf v_columnCount v_neededCount v_rowCount v_colours out (f_X2_haveSameColours_2 v_columnCount v_colours  n) := by
  obtain ⟨hx, hb, hr, hml, hown, hts, hlocks, hA⟩ := id C0
  intro n
  induction n with
  | zero =>
    intro x1 x2 x3 hf H locs hP hD hS ls hl
    exact nomatch (show (none : Option (Int32 × Unit)) = some out from hf)
  | succ n ih =>
    intro x1 x2 x3 hf H locs hP hD hS ls hl
    replace hf : ((if v_columnCount ≤ x3 then
  (some (((1 : Int32), ())))
  else
  (if (((x1 * (24 : Int32)) + x3) < 0 ∨ 1440 ≤ Int32.toNatClampNeg ((x1 * (24 : Int32)) + x3)) then none else
  if (((x2 * (24 : Int32)) + x3) < 0 ∨ 1440 ≤ Int32.toNatClampNeg ((x2 * (24 : Int32)) + x3)) then none else
  if (v_colours (Int32.toNatClampNeg ((x1 * (24 : Int32)) + x3))) = (v_colours (Int32.toNatClampNeg ((x2 * (24 : Int32)) + x3))) then
  (f_X2_haveSameColours_2 v_columnCount v_colours n x1 x2 (x3 + 1))
  else
  (some (((0 : Int32), ()))))) : Option (Int32 × Unit)) = some out := hf
    refine lv_iload_n hx hb dX2_haveSameColours_2 rfl (lv_at hl 3 rfl) ?_
    refine lv_aload_n hx hb dX2_haveSameColours_3 rfl (lv_at hl 0 rfl) ?_
    refine va_get (D := (dC, dI)) (ci := 3) (v := .int v_columnCount) (C := RX2) (T := TX2) (N := 8) hx hb hts in_X2_haveSameColours_X2 hown hK hP 0 rfl rfl 0 (by decide) (hts (.fieldLink RX2 26 "LinkedCovers$Table" "columnCount" "I") lk_X2_haveSameColours_f26) (fun _ h9 => h9) rfl dX2_haveSameColours_4 ?_
    refine lv_icmp_ge (tgt := 43) hx hb dX2_haveSameColours_7 (by decide) (fun c_1 => ?_) (fun c_1 => ?_)
    · replace hf := (if_pos c_1).symm.trans hf
      refine lv_iconst (v := 1) hx hb dX2_haveSameColours_43 (by decide) ?_
      have h9 := Option.some.inj hf
      have h8 := congrArg Prod.fst h9
      have h7 := congrArg Prod.snd h9
      exact W.zret (v := (1 : Int32)) hx hb hr rfl (fun t ht hW => ⟨⟨(1 : Int32), (), rfl, ⟨h8, h7⟩, by rw [ht]; exact hP, va_K.moved hW.alike hK, hD⟩, hS.F ht⟩) hS.2.2 dX2_haveSameColours_44
    · replace hf := (if_neg c_1).symm.trans hf
      refine lv_aload_n hx hb dX2_haveSameColours_10 rfl (lv_at hl 0 rfl) ?_
      refine va_get (D := (dC, dI)) (ci := 3) (v := .ref a_colours) (C := RX2) (T := TX2) (N := 8) hx hb hts in_X2_haveSameColours_X2 hown hK hP 0 rfl rfl 4 (by decide) (hts (.fieldLink RX2 15 "LinkedCovers$Table" "colours" "[B") lk_X2_haveSameColours_f15) (fun _ h9 => h9) rfl dX2_haveSameColours_11 ?_
      refine lv_iload_n hx hb dX2_haveSameColours_14 rfl (lv_at hl 1 rfl) ?_
      refine lv_bipush (v := 24) hx hb dX2_haveSameColours_15 (by decide) ?_
      refine lv_imul hx hb dX2_haveSameColours_17 ?_
      refine lv_iload_n hx hb dX2_haveSameColours_18 rfl (lv_at hl 3 rfl) ?_
      refine lv_iadd hx hb dX2_haveSameColours_19 ?_
      obtain ⟨h_2, hf⟩ := gd_ck hf
      refine va_bald hx hb hK hP 1 0 rfl rfl h_2 dX2_haveSameColours_20 ?_
      refine lv_aload_n hx hb dX2_haveSameColours_21 rfl (lv_at hl 0 rfl) ?_
      refine va_get (D := (dC, dI)) (ci := 3) (v := .ref a_colours) (C := RX2) (T := TX2) (N := 8) hx hb hts in_X2_haveSameColours_X2 hown hK hP 0 rfl rfl 4 (by decide) (hts (.fieldLink RX2 15 "LinkedCovers$Table" "colours" "[B") lk_X2_haveSameColours_f15) (fun _ h9 => h9) rfl dX2_haveSameColours_22 ?_
      refine lv_iload_n hx hb dX2_haveSameColours_25 rfl (lv_at hl 2 rfl) ?_
      refine lv_bipush (v := 24) hx hb dX2_haveSameColours_26 (by decide) ?_
      refine lv_imul hx hb dX2_haveSameColours_28 ?_
      refine lv_iload_n hx hb dX2_haveSameColours_29 rfl (lv_at hl 3 rfl) ?_
      refine lv_iadd hx hb dX2_haveSameColours_30 ?_
      obtain ⟨h_3, hf⟩ := gd_ck hf
      refine va_bald hx hb hK hP 1 0 rfl rfl h_3 dX2_haveSameColours_31 ?_
      refine lv_icmp_eq (tgt := 37) hx hb dX2_haveSameColours_32 (by decide) (fun c_4 => ?_) (fun c_4 => ?_)
      · replace hf := (if_pos c_4).symm.trans hf
        refine lv_iinc (v := (x3 + 1)) (lv' := [(3, .int (x3 + 1)), (0, .ref a_this), (1, .int x1), (2, .int x2)]) hx hb dX2_haveSameColours_37 hl (k := 3) rfl rfl (by decide) rfl (fun ls hl => ?_)
        refine lv_goto (tgt := 2) hx hb dX2_haveSameColours_40 (by decide) ?_
        exact ih x1 x2 (x3 + 1) hf _ _ hP hD hS ls (lv_sub hl [1, 2, 3, 0] rfl)
      · replace hf := (if_neg c_4).symm.trans hf
        refine lv_iconst (v := 0) hx hb dX2_haveSameColours_35 (by decide) ?_
        have h9 := Option.some.inj hf
        have h8 := congrArg Prod.fst h9
        have h7 := congrArg Prod.snd h9
        exact W.zret (v := (0 : Int32)) hx hb hr rfl (fun t ht hW => ⟨⟨(0 : Int32), (), rfl, ⟨h8, h7⟩, by rw [ht]; exact hP, va_K.moved hW.alike hK, hD⟩, hS.F ht⟩) hS.2.2 dX2_haveSameColours_36
set_option maxHeartbeats 4000000 in
set_option maxRecDepth 100000 in
theorem w_X2_haveSameColours_0 {p : Program} {l : Launch} {e : Env} {s : State} {m : MethodId} {args : Array Value} {below : List Frame} {meth : Method} {c : Code} {A : Nat → Prop} {dC : Nat → ClassId} {dI : Nat → Nat → Nat} {cB cI cJ cZ : ClassId} {a_this a_colours a_due a_columnsOf a_rowsOf a_clashesOf : Nat} {v_columnCount : Int32} {v_neededCount : Int32} {v_rowCount : Int32} {v_colours : (Nat → Int32)} {out : Int32 × Unit} (C0 : Cx RX2 cX2_haveSameColours (some .boolean) 4 wsX2_haveSameColours p s m args meth c A) (hK : va_K (dC, dI) vwCl (tysG cB cI cJ cZ) s)  : g_X2_haveSameColours_0 p l e s m args below meth c A dC dI cB cI cJ cZ a_this a_colours a_due a_columnsOf a_rowsOf a_clashesOf v_columnCount v_neededCount v_rowCount v_colours out (f_X2_haveSameColours v_columnCount v_colours ) := by
  obtain ⟨hx, hb, hr, hml, hown, hts, hlocks, hA⟩ := id C0
  intro x1 x2 hf H locs hP hD hS ls hl
  replace hf : ((f_X2_haveSameColours_2 v_columnCount v_colours 1000000 x1 x2 (0 : Int32)) : Option (Int32 × Unit)) = some out := hf
  refine lv_iconst (v := 0) hx hb dX2_haveSameColours_0 (by decide) ?_
  refine lv_istore_n (lv' := [(3, .int (0 : Int32)), (0, .ref a_this), (1, .int x1), (2, .int x2)]) hx hb dX2_haveSameColours_1 rfl hl (by decide) rfl (fun ls hl => ?_)
  exact w_X2_haveSameColours_2 C0 hK 1000000 x1 x2 (0 : Int32) hf _ _ hP hD hS ls (lv_sub hl [1, 2, 3, 0] rfl)
theorem nd_X2_haveSameColours : yX2_haveSameColours.cls ≠ "java/lang/invoke/MethodHandle" ∧ yX2_haveSameColours.cls ≠ "java/lang/invoke/VarHandle" ∧ (parseMethodDescriptor yX2_haveSameColours.desc).map (fun d => d.parameters.length) = some 2 := by decide +kernel
set_option maxHeartbeats 4000000 in
set_option maxRecDepth 100000 in
theorem c_X2_haveSameColours (l : Launch) (dC : Nat → ClassId) (dI : Nat → Nat → Nat) (cB cI cJ cZ : ClassId) (a_this a_colours a_due a_columnsOf a_rowsOf a_clashesOf : Nat) (sz : Nat) (v_columnCount : Int32) (v_neededCount : Int32) (v_rowCount : Int32) (v_colours : (Nat → Int32)) (x1 : Int32) (x2 : Int32) (out : Int32 × Unit) (hf : f_X2_haveSameColours v_columnCount v_colours x1 x2 = some out) : Met l yX2_haveSameColours wsX2_haveSameColours rm_X2_haveSameColours (va_Pc [.ref a_this, .int x1, .int x2] (fun U => U.heap.size = sz ∧ va_P (dC, dI) vwCl (ws_X2_haveSameColours cB cI cJ cZ a_this a_colours a_due a_columnsOf a_rowsOf a_clashesOf v_columnCount v_neededCount v_rowCount v_colours) U.heap ∧ va_K (dC, dI) vwCl (tysG cB cI cJ cZ) U ∧ va_D (fun _ => True) (ws_X2_haveSameColours cB cI cJ cZ a_this a_colours a_due a_columnsOf a_rowsOf a_clashesOf v_columnCount v_neededCount v_rowCount v_colours))) (qc_X2_haveSameColours (va_A (ws_X2_haveSameColours cB cI cJ cZ a_this a_colours a_due a_columnsOf a_rowsOf a_clashesOf v_columnCount v_neededCount v_rowCount v_colours) sz) dC dI cB cI cJ cZ a_this a_colours a_due a_columnsOf a_rowsOf a_clashesOf v_columnCount v_neededCount v_rowCount v_colours out) 0 0 (va_A (ws_X2_haveSameColours cB cI cJ cZ a_this a_colours a_due a_columnsOf a_rowsOf a_clashesOf v_columnCount v_neededCount v_rowCount v_colours) sz) := by
  refine Met.ofW (cc := cX2_haveSameColours) (maxL := 4) (ret := (some .boolean)) (by decide) rfl ?_
  intro p e s m args below meth c s₁ B hml hv
  obtain ⟨rfl, hsz, hP, hK, hD0⟩ := hv
  subst hsz
  have hD := hD0.self (sz := s.heap.size)
  generalize hAe : va_A (ws_X2_haveSameColours cB cI cJ cZ a_this a_colours a_due a_columnsOf a_rowsOf a_clashesOf v_columnCount v_neededCount v_rowCount v_colours) s.heap.size = A at hD ⊢
  have hA : ∀ q : Nat, s.heap.size ≤ q → A q := fun q h => by rw [← hAe]; exact Or.inr h
  have hl := lv_entry ([.ref a_this, .int x1, .int x2]) (n := 4) (Nat.le_of_ble_eq_true rfl)
  rw [lg_entry_eq]
  generalize (lg_sl ([.ref a_this, .int x1, .int x2]) ++ List.replicate (4 - (lg_sl ([.ref a_this, .int x1, .int x2])).length) Slot.unset).toArray = ls at hl ⊢
  have hl : lv_has ls 4 [(0, .ref a_this), (1, .int x1), (2, .int x2)] := hl
  exact w_X2_haveSameColours_0 ⟨B.exec, B.bytes, B.returns, hml, findClass_of_methodNamed B.named, atoms_spec (ws := wsX2_haveSameColours) B.pre, B.notSynchronized, hA⟩ hK x1 x2 hf _ _ hP hD va_S.rf ls (lv_sub hl [0, 1, 2] rfl)
-- X2.hasAlikeRows()Z: 33 instructions
theorem in_X2_hasAlikeRows_X2 : ∀ w ∈ wsX20, w ∈ wsX2_hasAlikeRows := by decide +kernel
abbrev ws_X2_hasAlikeRows (cB cI cJ cZ : ClassId) (a_this a_columnsOf a_colours a_due a_rowsOf a_clashesOf : Nat) (v_columnCount : Int32) (v_neededCount : Int32) (v_rowCount : Int32) (v_columnsOf : (Nat → Int32)) (v_colours : (Nat → Int32)) : va_W := [(a_this, .inr (3, [.int v_columnCount, .int v_neededCount, .ref a_due, .ref a_columnsOf, .ref a_colours, .ref a_rowsOf, .ref a_clashesOf, .int v_rowCount])), (a_columnsOf, .inl (cI, 60, .inl v_columnsOf)), (a_colours, .inl (cB, 1440, .inl v_colours))]
abbrev rm_X2_hasAlikeRows : Room := { frames := 1, cells := 0, slots := 0, locals := 23 }
theorem lk_X2_hasAlikeRows_f9 : Cond.fieldLink RX2 9 "LinkedCovers$Table" "columnsOf" "[I" ∈ wsX2_hasAlikeRows := by decide +kernel
theorem lk_X2_hasAlikeRows_f36 : Cond.fieldLink RX2 36 "LinkedCovers$Table" "rowCount" "I" ∈ wsX2_hasAlikeRows := by decide +kernel
def f_X2_hasAlikeRows_43 (v_columnCount : Int32) (v_rowCount : Int32) (v_columnsOf : (Nat → Int32)) (v_colours : (Nat → Int32)) (k_2 : Int32 → Option (Int32 × Unit)) (k_12 : Int32 → Int32 → Option (Int32 × Unit)) (x1 : Int32) (x2 : Int32) : Option (Int32 × Unit) :=
  k_12 x1 (x2 + 1)
def f_X2_hasAlikeRows_12 (v_columnCount : Int32) (v_rowCount : Int32) (v_columnsOf : (Nat → Int32)) (v_colours : (Nat → Int32)) (k_2 : Int32 → Option (Int32 × Unit)) : Nat → Int32 → Int32 → Option (Int32 × Unit)
  | 0 => fun _ _ => none
  | n + 1 => fun x1 x2 => if x1 ≤ x2 then
  (k_2 (x1 + 1))
  else
  (if (x1 < 0 ∨ 60 ≤ Int32.toNatClampNeg x1) then none else
  if (x2 < 0 ∨ 60 ≤ Int32.toNatClampNeg x2) then none else
  if (v_columnsOf (Int32.toNatClampNeg x1)) = (v_columnsOf (Int32.toNatClampNeg x2)) then
  ((f_X2_haveSameColours v_columnCount v_colours x1 x2).bind (fun o_5 =>
  if o_5.1 = 0 then
  (f_X2_hasAlikeRows_43 v_columnCount v_rowCount v_columnsOf v_colours k_2 (f_X2_hasAlikeRows_12 v_columnCount v_rowCount v_columnsOf v_colours k_2 n) x1 x2)
  else
  (some (((1 : Int32), ())))))
  else
  (f_X2_hasAlikeRows_43 v_columnCount v_rowCount v_columnsOf v_colours k_2 (f_X2_hasAlikeRows_12 v_columnCount v_rowCount v_columnsOf v_colours k_2 n) x1 x2))
def f_X2_hasAlikeRows_2 (v_columnCount : Int32) (v_rowCount : Int32) (v_columnsOf : (Nat → Int32)) (v_colours : (Nat → Int32))  : Nat → Int32 → Option (Int32 × Unit)
  | 0 => fun _ => none
  | n + 1 => fun x1 => if v_rowCount ≤ x1 then
  (some (((0 : Int32), ())))
  else
  (f_X2_hasAlikeRows_12 v_columnCount v_rowCount v_columnsOf v_colours (f_X2_hasAlikeRows_2 v_columnCount v_rowCount v_columnsOf v_colours n) 1000000 x1 (0 : Int32))
def f_X2_hasAlikeRows (v_columnCount : Int32) (v_rowCount : Int32) (v_columnsOf : (Nat → Int32)) (v_colours : (Nat → Int32))   : Option (Int32 × Unit) :=
  f_X2_hasAlikeRows_2 v_columnCount v_rowCount v_columnsOf v_colours 1000000 (0 : Int32)
abbrev qc_X2_hasAlikeRows (A : Nat → Prop) (dC : Nat → ClassId) (dI : Nat → Nat → Nat) (cB cI cJ cZ : ClassId) (a_this a_columnsOf a_colours a_due a_rowsOf a_clashesOf : Nat) (v_columnCount : Int32) (v_neededCount : Int32) (v_rowCount : Int32) (v_columnsOf : (Nat → Int32)) (v_colours : (Nat → Int32)) (out : Int32 × Unit) : Array Value → State → Outcome → State → Prop := va_Qi (fun (r : Int32) (u : Unit) => r = out.1 ∧ u = out.2) (fun (u : Unit) (t : State) => va_P (dC, dI) vwCl (ws_X2_hasAlikeRows cB cI cJ cZ a_this a_columnsOf a_colours a_due a_rowsOf a_clashesOf v_columnCount v_neededCount v_rowCount v_columnsOf v_colours) t.heap ∧ va_K (dC, dI) vwCl (tysG cB cI cJ cZ) t ∧ va_D A (ws_X2_hasAlikeRows cB cI cJ cZ a_this a_columnsOf a_colours a_due a_rowsOf a_clashesOf v_columnCount v_neededCount v_rowCount v_columnsOf v_colours)) A
abbrev g_X2_hasAlikeRows_43 (p : Program) (l : Launch) (e : Env) (s : State) (m : MethodId) (args : Array Value) (below : List Frame) (meth : Method) (c : Code) (A : Nat → Prop) (dC : Nat → ClassId) (dI : Nat → Nat → Nat) (cB cI cJ cZ : ClassId) (a_this a_columnsOf a_colours a_due a_rowsOf a_clashesOf : Nat) (v_columnCount : Int32) (v_neededCount : Int32) (v_rowCount : Int32) (v_columnsOf : (Nat → Int32)) (v_colours : (Nat → Int32)) (out : Int32 × Unit) (k : Int32 → Int32 → Option (Int32 × Unit)) : Prop := ∀ (x1 : Int32) (x2 : Int32), k x1 x2 = some out → ∀ (H : Heap) (locs : List Loc), va_P (dC, dI) vwCl (ws_X2_hasAlikeRows cB cI cJ cZ a_this a_columnsOf a_colours a_due a_rowsOf a_clashesOf v_columnCount v_neededCount v_rowCount v_columnsOf v_colours) H → va_D A (ws_X2_hasAlikeRows cB cI cJ cZ a_this a_columnsOf a_colours a_due a_rowsOf a_clashesOf v_columnCount v_neededCount v_rowCount v_columnsOf v_colours) → va_S A s.heap H locs → ∀ (ls : Array Slot), lv_has ls 3 [(0, .ref a_this), (1, .int x1), (2, .int x2)] → W p l e (headSpec wsX2_hasAlikeRows rm_X2_hasAlikeRows).room s m args below meth c H locs 0 0 (MQ below (qc_X2_hasAlikeRows A dC dI cB cI cJ cZ a_this a_columnsOf a_colours a_due a_rowsOf a_clashesOf v_columnCount v_neededCount v_rowCount v_columnsOf v_colours out) args s 0 0 A) (F0 m 43 ls [])
abbrev g_X2_hasAlikeRows_12 (p : Program) (l : Launch) (e : Env) (s : State) (m : MethodId) (args : Array Value) (below : List Frame) (meth : Method) (c : Code) (A : Nat → Prop) (dC : Nat → ClassId) (dI : Nat → Nat → Nat) (cB cI cJ cZ : ClassId) (a_this a_columnsOf a_colours a_due a_rowsOf a_clashesOf : Nat) (v_columnCount : Int32) (v_neededCount : Int32) (v_rowCount : Int32) (v_columnsOf : (Nat → Int32)) (v_colours : (Nat → Int32)) (out : Int32 × Unit) (k : Int32 → Int32 → Option (Int32 × Unit)) : Prop := ∀ (x1 : Int32) (x2 : Int32), k x1 x2 = some out → ∀ (H : Heap) (locs : List Loc), va_P (dC, dI) vwCl (ws_X2_hasAlikeRows cB cI cJ cZ a_this a_columnsOf a_colours a_due a_rowsOf a_clashesOf v_columnCount v_neededCount v_rowCount v_columnsOf v_colours) H → va_D A (ws_X2_hasAlikeRows cB cI cJ cZ a_this a_columnsOf a_colours a_due a_rowsOf a_clashesOf v_columnCount v_neededCount v_rowCount v_columnsOf v_colours) → va_S A s.heap H locs → ∀ (ls : Array Slot), lv_has ls 3 [(0, .ref a_this), (1, .int x1), (2, .int x2)] → W p l e (headSpec wsX2_hasAlikeRows rm_X2_hasAlikeRows).room s m args below meth c H locs 0 0 (MQ below (qc_X2_hasAlikeRows A dC dI cB cI cJ cZ a_this a_columnsOf a_colours a_due a_rowsOf a_clashesOf v_columnCount v_neededCount v_rowCount v_columnsOf v_colours out) args s 0 0 A) (F0 m 12 ls [])
abbrev g_X2_hasAlikeRows_2 (p : Program) (l : Launch) (e : Env) (s : State) (m : MethodId) (args : Array Value) (below : List Frame) (meth : Method) (c : Code) (A : Nat → Prop) (dC : Nat → ClassId) (dI : Nat → Nat → Nat) (cB cI cJ cZ : ClassId) (a_this a_columnsOf a_colours a_due a_rowsOf a_clashesOf : Nat) (v_columnCount : Int32) (v_neededCount : Int32) (v_rowCount : Int32) (v_columnsOf : (Nat → Int32)) (v_colours : (Nat → Int32)) (out : Int32 × Unit) (k : Int32 → Option (Int32 × Unit)) : Prop := ∀ (x1 : Int32), k x1 = some out → ∀ (H : Heap) (locs : List Loc), va_P (dC, dI) vwCl (ws_X2_hasAlikeRows cB cI cJ cZ a_this a_columnsOf a_colours a_due a_rowsOf a_clashesOf v_columnCount v_neededCount v_rowCount v_columnsOf v_colours) H → va_D A (ws_X2_hasAlikeRows cB cI cJ cZ a_this a_columnsOf a_colours a_due a_rowsOf a_clashesOf v_columnCount v_neededCount v_rowCount v_columnsOf v_colours) → va_S A s.heap H locs → ∀ (ls : Array Slot), lv_has ls 3 [(0, .ref a_this), (1, .int x1)] → W p l e (headSpec wsX2_hasAlikeRows rm_X2_hasAlikeRows).room s m args below meth c H locs 0 0 (MQ below (qc_X2_hasAlikeRows A dC dI cB cI cJ cZ a_this a_columnsOf a_colours a_due a_rowsOf a_clashesOf v_columnCount v_neededCount v_rowCount v_columnsOf v_colours out) args s 0 0 A) (F0 m 2 ls [])
abbrev g_X2_hasAlikeRows_0 (p : Program) (l : Launch) (e : Env) (s : State) (m : MethodId) (args : Array Value) (below : List Frame) (meth : Method) (c : Code) (A : Nat → Prop) (dC : Nat → ClassId) (dI : Nat → Nat → Nat) (cB cI cJ cZ : ClassId) (a_this a_columnsOf a_colours a_due a_rowsOf a_clashesOf : Nat) (v_columnCount : Int32) (v_neededCount : Int32) (v_rowCount : Int32) (v_columnsOf : (Nat → Int32)) (v_colours : (Nat → Int32)) (out : Int32 × Unit) (k : Option (Int32 × Unit)) : Prop := ∀ (_ : Unit), k = some out → ∀ (H : Heap) (locs : List Loc), va_P (dC, dI) vwCl (ws_X2_hasAlikeRows cB cI cJ cZ a_this a_columnsOf a_colours a_due a_rowsOf a_clashesOf v_columnCount v_neededCount v_rowCount v_columnsOf v_colours) H → va_D A (ws_X2_hasAlikeRows cB cI cJ cZ a_this a_columnsOf a_colours a_due a_rowsOf a_clashesOf v_columnCount v_neededCount v_rowCount v_columnsOf v_colours) → va_S A s.heap H locs → ∀ (ls : Array Slot), lv_has ls 3 [(0, .ref a_this)] → W p l e (headSpec wsX2_hasAlikeRows rm_X2_hasAlikeRows).room s m args below meth c H locs 0 0 (MQ below (qc_X2_hasAlikeRows A dC dI cB cI cJ cZ a_this a_columnsOf a_colours a_due a_rowsOf a_clashesOf v_columnCount v_neededCount v_rowCount v_columnsOf v_colours out) args s 0 0 A) (F0 m 0 ls [])
set_option maxHeartbeats 4000000 in
set_option maxRecDepth 100000 in
theorem w_X2_hasAlikeRows_43 {p : Program} {l : Launch} {e : Env} {s : State} {m : MethodId} {args : Array Value} {below : List Frame} {meth : Method} {c : Code} {A : Nat → Prop} {dC : Nat → ClassId} {dI : Nat → Nat → Nat} {cB cI cJ cZ : ClassId} {a_this a_columnsOf a_colours a_due a_rowsOf a_clashesOf : Nat} {v_columnCount : Int32} {v_neededCount : Int32} {v_rowCount : Int32} {v_columnsOf : (Nat → Int32)} {v_colours : (Nat → Int32)} {out : Int32 × Unit} (C0 : Cx RX2 cX2_hasAlikeRows (some .boolean) 3 wsX2_hasAlikeRows p s m args meth c A) (hK : va_K (dC, dI) vwCl (tysG cB cI cJ cZ) s) {k_2 : Int32 → Option (Int32 × Unit)} (hk_2 : g_X2_hasAlikeRows_2 p l e s m args below meth c A dC dI cB cI cJ cZ a_this a_columnsOf a_colours a_due a_rowsOf a_clashesOf v_columnCount v_neededCount v_rowCount v_columnsOf v_colours out k_2) {k_12 : Int32 → Int32 → Option (Int32 × Unit)} (hk_12 : g_X2_hasAlikeRows_12 p l e s m args below meth c A dC dI cB cI cJ cZ a_this a_columnsOf a_colours a_due a_rowsOf a_clashesOf v_columnCount v_neededCount v_rowCount v_columnsOf v_colours out k_12) : g_X2_hasAlikeRows_43 p l e s m args below meth c A dC dI cB cI cJ cZ a_this a_columnsOf a_colours a_due a_rowsOf a_clashesOf v_columnCount v_neededCount v_rowCount v_columnsOf v_colours out (f_X2_hasAlikeRows_43 v_columnCount v_rowCount v_columnsOf v_colours k_2 k_12) := by
  obtain ⟨hx, hb, hr, hml, hown, hts, hlocks, hA⟩ := id C0
  intro x1 x2 hf H locs hP hD hS ls hl
  replace hf : ((k_12 x1 (x2 + 1)) : Option (Int32 × Unit)) = some out := hf
  refine lv_iinc (v := (x2 + 1)) (lv' := [(2, .int (x2 + 1)), (0, .ref a_this), (1, .int x1)]) hx hb dX2_hasAlikeRows_43 hl (k := 2) rfl rfl (by decide) rfl (fun ls hl => ?_)
  refine lv_goto (tgt := 12) hx hb dX2_hasAlikeRows_46 (by decide) ?_
  exact hk_12 x1 (x2 + 1) hf _ _ hP hD hS ls (lv_sub hl [1, 2, 0] rfl)
set_option maxHeartbeats 4000000 in
set_option maxRecDepth 100000 in
theorem w_X2_hasAlikeRows_12 {p : Program} {l : Launch} {e : Env} {s : State} {m : MethodId} {args : Array Value} {below : List Frame} {meth : Method} {c : Code} {A : Nat → Prop} {dC : Nat → ClassId} {dI : Nat → Nat → Nat} {cB cI cJ cZ : ClassId} {a_this a_columnsOf a_colours a_due a_rowsOf a_clashesOf : Nat} {v_columnCount : Int32} {v_neededCount : Int32} {v_rowCount : Int32} {v_columnsOf : (Nat → Int32)} {v_colours : (Nat → Int32)} {out : Int32 × Unit} (C0 : Cx RX2 cX2_hasAlikeRows (some .boolean) 3 wsX2_hasAlikeRows p s m args meth c A) (hK : va_K (dC, dI) vwCl (tysG cB cI cJ cZ) s) {k_2 : Int32 → Option (Int32 × Unit)} (hk_2 : g_X2_hasAlikeRows_2 p l e s m args below meth c A dC dI cB cI cJ cZ a_this a_columnsOf a_colours a_due a_rowsOf a_clashesOf v_columnCount v_neededCount v_rowCount v_columnsOf v_colours out k_2) : ∀ n : Nat, g_X2_hasAlikeRows_12 p l e s m args below meth c A dC dI cB cI cJ cZ a_this a_columnsOf a_colours a_due a_rowsOf a_clashesOf v_columnCount v_neededCount v_rowCount v_columnsOf v_colours out (f_X2_hasAlikeRows_12 v_columnCount v_rowCount v_columnsOf v_colours k_2 n) := by
  obtain ⟨hx, hb, hr, hml, hown, hts, hlocks, hA⟩ := id C0
  intro n
  induction n with
  | zero =>
    intro x1 x2 hf H locs hP hD hS ls hl
    exact nomatch (show (none : Option (Int32 × Unit)) = some out from hf)
  | succ n ih =>
    intro x1 x2 hf H locs hP hD hS ls hl
    replace hf : ((if x1 ≤ x2 then
  (k_2 (x1 + 1))
  else
  (if (x1 < 0 ∨ 60 ≤ Int32.toNatClampNeg x1) then none else
  if (x2 < 0 ∨ 60 ≤ Int32.toNatClampNeg x2) then none else
  if (v_columnsOf (Int32.toNatClampNeg x1)) = (v_columnsOf (Int32.toNatClampNeg x2)) then
  ((f_X2_haveSameColours v_columnCount v_colours x1 x2).bind (fun o_5 =>
  if o_5.1 = 0 then
  (f_X2_hasAlikeRows_43 v_columnCount v_rowCount v_columnsOf v_colours k_2 (f_X2_hasAlikeRows_12 v_columnCount v_rowCount v_columnsOf v_colours k_2 n) x1 x2)
  else
  (some (((1 : Int32), ())))))
  else
  (f_X2_hasAlikeRows_43 v_columnCount v_rowCount v_columnsOf v_colours k_2 (f_X2_hasAlikeRows_12 v_columnCount v_rowCount v_columnsOf v_colours k_2 n) x1 x2))) : Option (Int32 × Unit)) = some out := hf
    refine lv_iload_n hx hb dX2_hasAlikeRows_12 rfl (lv_at hl 2 rfl) ?_
    refine lv_iload_n hx hb dX2_hasAlikeRows_13 rfl (lv_at hl 1 rfl) ?_
    refine lv_icmp_ge (tgt := 49) hx hb dX2_hasAlikeRows_14 (by decide) (fun c_1 => ?_) (fun c_1 => ?_)
    · replace hf := (if_pos c_1).symm.trans hf
      refine lv_iinc (v := (x1 + 1)) (lv' := [(1, .int (x1 + 1)), (0, .ref a_this), (2, .int x2)]) hx hb dX2_hasAlikeRows_49 hl (k := 1) rfl rfl (by decide) rfl (fun ls hl => ?_)
      refine lv_goto (tgt := 2) hx hb dX2_hasAlikeRows_52 (by decide) ?_
      exact hk_2 (x1 + 1) hf _ _ hP hD hS ls (lv_sub hl [1, 0] rfl)
    · replace hf := (if_neg c_1).symm.trans hf
      refine lv_aload_n hx hb dX2_hasAlikeRows_17 rfl (lv_at hl 0 rfl) ?_
      refine va_get (D := (dC, dI)) (ci := 3) (v := .ref a_columnsOf) (C := RX2) (T := TX2) (N := 8) hx hb hts in_X2_hasAlikeRows_X2 hown hK hP 0 rfl rfl 3 (by decide) (hts (.fieldLink RX2 9 "LinkedCovers$Table" "columnsOf" "[I") lk_X2_hasAlikeRows_f9) (fun _ h9 => h9) rfl dX2_hasAlikeRows_18 ?_
      refine lv_iload_n hx hb dX2_hasAlikeRows_21 rfl (lv_at hl 1 rfl) ?_
      obtain ⟨h_2, hf⟩ := gd_ck hf
      refine va_iald hx hb hK hP 1 1 rfl rfl h_2 dX2_hasAlikeRows_22 ?_
      refine lv_aload_n hx hb dX2_hasAlikeRows_23 rfl (lv_at hl 0 rfl) ?_
      refine va_get (D := (dC, dI)) (ci := 3) (v := .ref a_columnsOf) (C := RX2) (T := TX2) (N := 8) hx hb hts in_X2_hasAlikeRows_X2 hown hK hP 0 rfl rfl 3 (by decide) (hts (.fieldLink RX2 9 "LinkedCovers$Table" "columnsOf" "[I") lk_X2_hasAlikeRows_f9) (fun _ h9 => h9) rfl dX2_hasAlikeRows_24 ?_
      refine lv_iload_n hx hb dX2_hasAlikeRows_27 rfl (lv_at hl 2 rfl) ?_
      obtain ⟨h_3, hf⟩ := gd_ck hf
      refine va_iald hx hb hK hP 1 1 rfl rfl h_3 dX2_hasAlikeRows_28 ?_
      refine lv_icmp_ne (tgt := 43) hx hb dX2_hasAlikeRows_29 (by decide) (fun c_4 => ?_) (fun c_4 => ?_)
      · replace hf := (if_neg c_4).symm.trans hf
        exact w_X2_hasAlikeRows_43 C0 hK hk_2 ih x1 x2 hf _ _ hP hD hS ls (lv_sub hl [0, 1, 2] rfl)
      · replace hf := (if_pos c_4).symm.trans hf
        refine lv_aload_n hx hb dX2_hasAlikeRows_32 rfl (lv_at hl 0 rfl) ?_
        refine lv_iload_n hx hb dX2_hasAlikeRows_33 rfl (lv_at hl 1 rfl) ?_
        refine lv_iload_n hx hb dX2_hasAlikeRows_34 rfl (lv_at hl 2 rfl) ?_
        obtain ⟨o_5, ho_5, hf⟩ := gd_bd hf
        have hPc := hP.sub (ws' := ws_X2_haveSameColours cB cI cJ cZ a_this a_colours a_due a_columnsOf a_rowsOf a_clashesOf v_columnCount v_neededCount v_rowCount v_colours) [0, 2] rfl
        have hDc := hD.sub (ws' := ws_X2_haveSameColours cB cI cJ cZ a_this a_colours a_due a_columnsOf a_rowsOf a_clashesOf v_columnCount v_neededCount v_rowCount v_colours) [0, 2] (by decide) rfl
        have hFc := va_free (wc := ws_X2_haveSameColours cB cI cJ cZ a_this a_colours a_due a_columnsOf a_rowsOf a_clashesOf v_columnCount v_neededCount v_rowCount v_colours) hD hS hA [0, 2] rfl
        refine va_calli (va_runV (As := [.int x1, .int x2]) (rest := []) ⟨hx, hb, hml, hown, hts⟩ (c_X2_haveSameColours l dC dI cB cI cJ cZ a_this a_colours a_due a_columnsOf a_rowsOf a_clashesOf H.size v_columnCount v_neededCount v_rowCount v_colours x1 x2 o_5 ho_5) (cwV 2 hts gX2_hasAlikeRows_X2_haveSameColours rfl rfl rfl ⟨rfl, nd_X2_haveSameColours⟩ ⟨Nat.le_of_ble_eq_true rfl, Nat.le_of_ble_eq_true rfl⟩) ⟨fun a U g mk q => by obtain ⟨q0, q1, qP, qK, qD⟩ := q; exact ⟨q0, q1, qP, va_K.moved (u := U) (U := U.calling g mk a) (Vm.Alike.refl U.vm) qK, qD⟩, va_recv hK hPc (ci := 3) (q0 := 0) rfl rfl, fun U hU hW => ⟨rfl, by rw [hU], by rw [hU]; exact hPc, va_K.moved hW.alike hK, hDc.weaken (fun _ _ _ _ => trivial)⟩⟩ rfl rfl hl.1 rfl (lv_room (Nat.le_of_ble_eq_true rfl)) dX2_hasAlikeRows_35 ⟨Nat.le_of_ble_eq_true rfl, Nat.le_of_ble_eq_true rfl⟩) hS (fun q _ h => hFc q h) hFc (fun r_5 u_5 t H1 locs ht hvm hw hB hz1 hk1 hS => ?_)
        obtain ⟨rfl, rfl⟩ := hw
        obtain ⟨hP1, hK1, hD1⟩ := hB
        rw [ht] at hP1
        obtain ⟨hP, hD⟩ := va_join (wr := [(a_columnsOf, .inl (cI, 60, .inl v_columnsOf))]) (w1 := ws_X2_haveSameColours cB cI cJ cZ a_this a_colours a_due a_columnsOf a_rowsOf a_clashesOf v_columnCount v_neededCount v_rowCount v_colours) hP hD [0, 2] [1] rfl rfl (by decide) (by decide) hk1 hFc hP1 hD1
        generalize H1 = H at hP hS ⊢
        have hP : va_P (dC, dI) vwCl (ws_X2_hasAlikeRows cB cI cJ cZ a_this a_columnsOf a_colours a_due a_rowsOf a_clashesOf v_columnCount v_neededCount v_rowCount v_columnsOf v_colours) H := hP.sub [1, 0, 2] rfl
        have hD : va_D A (ws_X2_hasAlikeRows cB cI cJ cZ a_this a_columnsOf a_colours a_due a_rowsOf a_clashesOf v_columnCount v_neededCount v_rowCount v_columnsOf v_colours) := hD.sub [1, 0, 2] (by decide) rfl
        refine lv_if_eq (tgt := 43) hx hb dX2_hasAlikeRows_38 (by decide) (fun c_6 => ?_) (fun c_6 => ?_)
        · replace hf := (if_pos c_6).symm.trans hf
          exact w_X2_hasAlikeRows_43 C0 hK hk_2 ih x1 x2 hf _ _ hP hD hS ls (lv_sub hl [0, 1, 2] rfl)
        · replace hf := (if_neg c_6).symm.trans hf
          refine lv_iconst (v := 1) hx hb dX2_hasAlikeRows_41 (by decide) ?_
          have h9 := Option.some.inj hf
          have h8 := congrArg Prod.fst h9
          have h7 := congrArg Prod.snd h9
          exact W.zret (v := (1 : Int32)) hx hb hr rfl (fun t ht hW => ⟨⟨(1 : Int32), (), rfl, ⟨h8, h7⟩, by rw [ht]; exact hP, va_K.moved hW.alike hK, hD⟩, hS.F ht⟩) hS.2.2 dX2_hasAlikeRows_42
set_option maxHeartbeats 4000000 in
set_option maxRecDepth 100000 in
theorem w_X2_hasAlikeRows_2 {p : Program} {l : Launch} {e : Env} {s : State} {m : MethodId} {args : Array Value} {below : List Frame} {meth : Method} {c : Code} {A : Nat → Prop} {dC : Nat → ClassId} {dI : Nat → Nat → Nat} {cB cI cJ cZ : ClassId} {a_this a_columnsOf a_colours a_due a_rowsOf a_clashesOf : Nat} {v_columnCount : Int32} {v_neededCount : Int32} {v_rowCount : Int32} {v_columnsOf : (Nat → Int32)} {v_colours : (Nat → Int32)} {out : Int32 × Unit} (C0 : Cx RX2 cX2_hasAlikeRows (some .boolean) 3 wsX2_hasAlikeRows p s m args meth c A) (hK : va_K (dC, dI) vwCl (tysG cB cI cJ cZ) s)  : ∀ n : Nat, g_X2_hasAlikeRows_2 p l e s m args below meth c A dC dI cB cI cJ cZ a_this a_columnsOf a_colours a_due a_rowsOf a_clashesOf v_columnCount v_neededCount v_rowCount v_columnsOf v_colours out (f_X2_hasAlikeRows_2 v_columnCount v_rowCount v_columnsOf v_colours  n) := by
  obtain ⟨hx, hb, hr, hml, hown, hts, hlocks, hA⟩ := id C0
  intro n
  induction n with
  | zero =>
    intro x1 hf H locs hP hD hS ls hl
    exact nomatch (show (none : Option (Int32 × Unit)) = some out from hf)
  | succ n ih =>
    intro x1 hf H locs hP hD hS ls hl
    replace hf : ((if v_rowCount ≤ x1 then
  (some (((0 : Int32), ())))
  else
  (f_X2_hasAlikeRows_12 v_columnCount v_rowCount v_columnsOf v_colours (f_X2_hasAlikeRows_2 v_columnCount v_rowCount v_columnsOf v_colours n) 1000000 x1 (0 : Int32))) : Option (Int32 × Unit)) = some out := hf
    refine lv_iload_n hx hb dX2_hasAlikeRows_2 rfl (lv_at hl 1 rfl) ?_
    refine lv_aload_n hx hb dX2_hasAlikeRows_3 rfl (lv_at hl 0 rfl) ?_
    refine va_get (D := (dC, dI)) (ci := 3) (v := .int v_rowCount) (C := RX2) (T := TX2) (N := 8) hx hb hts in_X2_hasAlikeRows_X2 hown hK hP 0 rfl rfl 7 (by decide) (hts (.fieldLink RX2 36 "LinkedCovers$Table" "rowCount" "I") lk_X2_hasAlikeRows_f36) (fun _ h9 => h9) rfl dX2_hasAlikeRows_4 ?_
    refine lv_icmp_ge (tgt := 55) hx hb dX2_hasAlikeRows_7 (by decide) (fun c_7 => ?_) (fun c_7 => ?_)
    · replace hf := (if_pos c_7).symm.trans hf
      refine lv_iconst (v := 0) hx hb dX2_hasAlikeRows_55 (by decide) ?_
      have h9 := Option.some.inj hf
      have h8 := congrArg Prod.fst h9
      have h7 := congrArg Prod.snd h9
      exact W.zret (v := (0 : Int32)) hx hb hr rfl (fun t ht hW => ⟨⟨(0 : Int32), (), rfl, ⟨h8, h7⟩, by rw [ht]; exact hP, va_K.moved hW.alike hK, hD⟩, hS.F ht⟩) hS.2.2 dX2_hasAlikeRows_56
    · replace hf := (if_neg c_7).symm.trans hf
      refine lv_iconst (v := 0) hx hb dX2_hasAlikeRows_10 (by decide) ?_
      refine lv_istore_n (lv' := [(2, .int (0 : Int32)), (0, .ref a_this), (1, .int x1)]) hx hb dX2_hasAlikeRows_11 rfl hl (by decide) rfl (fun ls hl => ?_)
      exact w_X2_hasAlikeRows_12 C0 hK ih 1000000 x1 (0 : Int32) hf _ _ hP hD hS ls (lv_sub hl [1, 2, 0] rfl)
set_option maxHeartbeats 4000000 in
set_option maxRecDepth 100000 in
theorem w_X2_hasAlikeRows_0 {p : Program} {l : Launch} {e : Env} {s : State} {m : MethodId} {args : Array Value} {below : List Frame} {meth : Method} {c : Code} {A : Nat → Prop} {dC : Nat → ClassId} {dI : Nat → Nat → Nat} {cB cI cJ cZ : ClassId} {a_this a_columnsOf a_colours a_due a_rowsOf a_clashesOf : Nat} {v_columnCount : Int32} {v_neededCount : Int32} {v_rowCount : Int32} {v_columnsOf : (Nat → Int32)} {v_colours : (Nat → Int32)} {out : Int32 × Unit} (C0 : Cx RX2 cX2_hasAlikeRows (some .boolean) 3 wsX2_hasAlikeRows p s m args meth c A) (hK : va_K (dC, dI) vwCl (tysG cB cI cJ cZ) s)  : g_X2_hasAlikeRows_0 p l e s m args below meth c A dC dI cB cI cJ cZ a_this a_columnsOf a_colours a_due a_rowsOf a_clashesOf v_columnCount v_neededCount v_rowCount v_columnsOf v_colours out (f_X2_hasAlikeRows v_columnCount v_rowCount v_columnsOf v_colours ) := by
  obtain ⟨hx, hb, hr, hml, hown, hts, hlocks, hA⟩ := id C0
  intro _ hf H locs hP hD hS ls hl
  replace hf : ((f_X2_hasAlikeRows_2 v_columnCount v_rowCount v_columnsOf v_colours 1000000 (0 : Int32)) : Option (Int32 × Unit)) = some out := hf
  refine lv_iconst (v := 0) hx hb dX2_hasAlikeRows_0 (by decide) ?_
  refine lv_istore_n (lv' := [(1, .int (0 : Int32)), (0, .ref a_this)]) hx hb dX2_hasAlikeRows_1 rfl hl (by decide) rfl (fun ls hl => ?_)
  exact w_X2_hasAlikeRows_2 C0 hK 1000000 (0 : Int32) hf _ _ hP hD hS ls (lv_sub hl [1, 0] rfl)
theorem nd_X2_hasAlikeRows : yX2_hasAlikeRows.cls ≠ "java/lang/invoke/MethodHandle" ∧ yX2_hasAlikeRows.cls ≠ "java/lang/invoke/VarHandle" ∧ (parseMethodDescriptor yX2_hasAlikeRows.desc).map (fun d => d.parameters.length) = some 0 := by decide +kernel
set_option maxHeartbeats 4000000 in
set_option maxRecDepth 100000 in
theorem c_X2_hasAlikeRows (l : Launch) (dC : Nat → ClassId) (dI : Nat → Nat → Nat) (cB cI cJ cZ : ClassId) (a_this a_columnsOf a_colours a_due a_rowsOf a_clashesOf : Nat) (sz : Nat) (v_columnCount : Int32) (v_neededCount : Int32) (v_rowCount : Int32) (v_columnsOf : (Nat → Int32)) (v_colours : (Nat → Int32))  (out : Int32 × Unit) (hf : f_X2_hasAlikeRows v_columnCount v_rowCount v_columnsOf v_colours  = some out) : Met l yX2_hasAlikeRows wsX2_hasAlikeRows rm_X2_hasAlikeRows (va_Pc [.ref a_this] (fun U => U.heap.size = sz ∧ va_P (dC, dI) vwCl (ws_X2_hasAlikeRows cB cI cJ cZ a_this a_columnsOf a_colours a_due a_rowsOf a_clashesOf v_columnCount v_neededCount v_rowCount v_columnsOf v_colours) U.heap ∧ va_K (dC, dI) vwCl (tysG cB cI cJ cZ) U ∧ va_D (fun _ => True) (ws_X2_hasAlikeRows cB cI cJ cZ a_this a_columnsOf a_colours a_due a_rowsOf a_clashesOf v_columnCount v_neededCount v_rowCount v_columnsOf v_colours))) (qc_X2_hasAlikeRows (va_A (ws_X2_hasAlikeRows cB cI cJ cZ a_this a_columnsOf a_colours a_due a_rowsOf a_clashesOf v_columnCount v_neededCount v_rowCount v_columnsOf v_colours) sz) dC dI cB cI cJ cZ a_this a_columnsOf a_colours a_due a_rowsOf a_clashesOf v_columnCount v_neededCount v_rowCount v_columnsOf v_colours out) 0 0 (va_A (ws_X2_hasAlikeRows cB cI cJ cZ a_this a_columnsOf a_colours a_due a_rowsOf a_clashesOf v_columnCount v_neededCount v_rowCount v_columnsOf v_colours) sz) := by
  refine Met.ofW (cc := cX2_hasAlikeRows) (maxL := 3) (ret := (some .boolean)) (by decide) rfl ?_
  intro p e s m args below meth c s₁ B hml hv
  obtain ⟨rfl, hsz, hP, hK, hD0⟩ := hv
  subst hsz
  have hD := hD0.self (sz := s.heap.size)
  generalize hAe : va_A (ws_X2_hasAlikeRows cB cI cJ cZ a_this a_columnsOf a_colours a_due a_rowsOf a_clashesOf v_columnCount v_neededCount v_rowCount v_columnsOf v_colours) s.heap.size = A at hD ⊢
  have hA : ∀ q : Nat, s.heap.size ≤ q → A q := fun q h => by rw [← hAe]; exact Or.inr h
  have hl := lv_entry ([.ref a_this]) (n := 3) (Nat.le_of_ble_eq_true rfl)
  rw [lg_entry_eq]
  generalize (lg_sl ([.ref a_this]) ++ List.replicate (3 - (lg_sl ([.ref a_this])).length) Slot.unset).toArray = ls at hl ⊢
  have hl : lv_has ls 3 [(0, .ref a_this)] := hl
  exact w_X2_hasAlikeRows_0 ⟨B.exec, B.bytes, B.returns, hml, findClass_of_methodNamed B.named, atoms_spec (ws := wsX2_hasAlikeRows) B.pre, B.notSynchronized, hA⟩ hK () hf _ _ hP hD va_S.rf ls (lv_sub hl [0] rfl)
