-- X3.wayImage(IJ)J: 34 instructions
theorem in_X3_wayImage_X2 : ∀ w ∈ wsX20, w ∈ wsX3_wayImage := by decide +kernel
theorem in_X3_wayImage_X3 : ∀ w ∈ wsX30, w ∈ wsX3_wayImage := by decide +kernel
abbrev ws_X3_wayImage (cB cI cJ cZ : ClassId) (a_this a_table a_rowImages a_targets a_classOf a_table_due a_table_columnsOf a_table_colours a_table_rowsOf a_table_clashesOf : Nat) (v_count : Int32) (v_table_columnCount : Int32) (v_table_neededCount : Int32) (v_table_rowCount : Int32) (v_rowImages : (Nat → Int32)) : va_W := [(a_this, .inr (4, [.ref a_table, .ref a_targets, .ref a_rowImages, .ref a_classOf, .int v_count])), (a_table, .inr (3, [.int v_table_columnCount, .int v_table_neededCount, .ref a_table_due, .ref a_table_columnsOf, .ref a_table_colours, .ref a_table_rowsOf, .ref a_table_clashesOf, .int v_table_rowCount])), (a_rowImages, .inl (cI, 480, .inl v_rowImages))]
abbrev rm_X3_wayImage : Room := { frames := 0, cells := 0, slots := 0, locals := 0 }
theorem lk_X3_wayImage_f21 : Cond.fieldLink RX3 21 "LinkedCovers$Turns" "table" "LLinkedCovers$Table;" ∈ wsX3_wayImage := by decide +kernel
theorem lk_X3_wayImage_f44 : Cond.fieldLink RX3 44 "LinkedCovers$Table" "rowCount" "I" ∈ wsX3_wayImage := by decide +kernel
theorem lk_X3_wayImage_f15 : Cond.fieldLink RX3 15 "LinkedCovers$Turns" "rowImages" "[I" ∈ wsX3_wayImage := by decide +kernel
def f_X3_wayImage_48 (v_table_rowCount : Int32) (v_rowImages : (Nat → Int32)) (k_6 : Int32 → Int64 → Int64 → Int32 → Option (Int64 × Unit)) (x1 : Int32) (x2 : Int64) (x4 : Int64) (x6 : Int32) : Option (Int64 × Unit) :=
  k_6 x1 x2 x4 (x6 + 1)
def f_X3_wayImage_6 (v_table_rowCount : Int32) (v_rowImages : (Nat → Int32))  : Nat → Int32 → Int64 → Int64 → Int32 → Option (Int64 × Unit)
  | 0 => fun _ _ _ _ => none
  | n + 1 => fun x1 x2 x4 x6 => if v_table_rowCount ≤ x6 then
  (some ((x4, ())))
  else
  (if (lg_cmp ((x2 >>> (Int32.toInt64 x6 &&& 63)) &&& (1 : Int64)) (0 : Int64)) = 0 then
  (f_X3_wayImage_48 v_table_rowCount v_rowImages (f_X3_wayImage_6 v_table_rowCount v_rowImages n) x1 x2 x4 x6)
  else
  (if (((x1 * (60 : Int32)) + x6) < 0 ∨ 480 ≤ Int32.toNatClampNeg ((x1 * (60 : Int32)) + x6)) then none else
  f_X3_wayImage_48 v_table_rowCount v_rowImages (f_X3_wayImage_6 v_table_rowCount v_rowImages n) x1 x2 (x4 ||| ((1 : Int64) <<< (Int32.toInt64 (v_rowImages (Int32.toNatClampNeg ((x1 * (60 : Int32)) + x6))) &&& 63))) x6))
def f_X3_wayImage (v_table_rowCount : Int32) (v_rowImages : (Nat → Int32))  (x1 : Int32) (x2 : Int64) : Option (Int64 × Unit) :=
  f_X3_wayImage_6 v_table_rowCount v_rowImages 1000000 x1 x2 (0 : Int64) (0 : Int32)
abbrev qc_X3_wayImage (A : Nat → Prop) (dC : Nat → ClassId) (dI : Nat → Nat → Nat) (cB cI cJ cZ : ClassId) (a_this a_table a_rowImages a_targets a_classOf a_table_due a_table_columnsOf a_table_colours a_table_rowsOf a_table_clashesOf : Nat) (v_count : Int32) (v_table_columnCount : Int32) (v_table_neededCount : Int32) (v_table_rowCount : Int32) (v_rowImages : (Nat → Int32)) (out : Int64 × Unit) : Array Value → State → Outcome → State → Prop := va_Ql (fun (r : Int64) (u : Unit) => r = out.1 ∧ u = out.2) (fun (u : Unit) (t : State) => va_P (dC, dI) vwCl (ws_X3_wayImage cB cI cJ cZ a_this a_table a_rowImages a_targets a_classOf a_table_due a_table_columnsOf a_table_colours a_table_rowsOf a_table_clashesOf v_count v_table_columnCount v_table_neededCount v_table_rowCount v_rowImages) t.heap ∧ va_K (dC, dI) vwCl (tysG cB cI cJ cZ) t ∧ va_D A (ws_X3_wayImage cB cI cJ cZ a_this a_table a_rowImages a_targets a_classOf a_table_due a_table_columnsOf a_table_colours a_table_rowsOf a_table_clashesOf v_count v_table_columnCount v_table_neededCount v_table_rowCount v_rowImages)) A
abbrev g_X3_wayImage_48 (p : Program) (l : Launch) (e : Env) (s : State) (m : MethodId) (args : Array Value) (below : List Frame) (meth : Method) (c : Code) (A : Nat → Prop) (dC : Nat → ClassId) (dI : Nat → Nat → Nat) (cB cI cJ cZ : ClassId) (a_this a_table a_rowImages a_targets a_classOf a_table_due a_table_columnsOf a_table_colours a_table_rowsOf a_table_clashesOf : Nat) (v_count : Int32) (v_table_columnCount : Int32) (v_table_neededCount : Int32) (v_table_rowCount : Int32) (v_rowImages : (Nat → Int32)) (out : Int64 × Unit) (k : Int32 → Int64 → Int64 → Int32 → Option (Int64 × Unit)) : Prop := ∀ (x1 : Int32) (x2 : Int64) (x4 : Int64) (x6 : Int32), k x1 x2 x4 x6 = some out → ∀ (H : Heap) (locs : List Loc), va_P (dC, dI) vwCl (ws_X3_wayImage cB cI cJ cZ a_this a_table a_rowImages a_targets a_classOf a_table_due a_table_columnsOf a_table_colours a_table_rowsOf a_table_clashesOf v_count v_table_columnCount v_table_neededCount v_table_rowCount v_rowImages) H → va_D A (ws_X3_wayImage cB cI cJ cZ a_this a_table a_rowImages a_targets a_classOf a_table_due a_table_columnsOf a_table_colours a_table_rowsOf a_table_clashesOf v_count v_table_columnCount v_table_neededCount v_table_rowCount v_rowImages) → va_S A s.heap H locs → ∀ (ls : Array Slot), lv_has ls 7 [(0, .ref a_this), (1, .int x1), (2, .long x2), (4, .long x4), (6, .int x6)] → W p l e (headSpec wsX3_wayImage rm_X3_wayImage).room s m args below meth c H locs 0 0 (MQ below (qc_X3_wayImage A dC dI cB cI cJ cZ a_this a_table a_rowImages a_targets a_classOf a_table_due a_table_columnsOf a_table_colours a_table_rowsOf a_table_clashesOf v_count v_table_columnCount v_table_neededCount v_table_rowCount v_rowImages out) args s 0 0 A) (F0 m 48 ls [])
abbrev g_X3_wayImage_6 (p : Program) (l : Launch) (e : Env) (s : State) (m : MethodId) (args : Array Value) (below : List Frame) (meth : Method) (c : Code) (A : Nat → Prop) (dC : Nat → ClassId) (dI : Nat → Nat → Nat) (cB cI cJ cZ : ClassId) (a_this a_table a_rowImages a_targets a_classOf a_table_due a_table_columnsOf a_table_colours a_table_rowsOf a_table_clashesOf : Nat) (v_count : Int32) (v_table_columnCount : Int32) (v_table_neededCount : Int32) (v_table_rowCount : Int32) (v_rowImages : (Nat → Int32)) (out : Int64 × Unit) (k : Int32 → Int64 → Int64 → Int32 → Option (Int64 × Unit)) : Prop := ∀ (x1 : Int32) (x2 : Int64) (x4 : Int64) (x6 : Int32), k x1 x2 x4 x6 = some out → ∀ (H : Heap) (locs : List Loc), va_P (dC, dI) vwCl (ws_X3_wayImage cB cI cJ cZ a_this a_table a_rowImages a_targets a_classOf a_table_due a_table_columnsOf a_table_colours a_table_rowsOf a_table_clashesOf v_count v_table_columnCount v_table_neededCount v_table_rowCount v_rowImages) H → va_D A (ws_X3_wayImage cB cI cJ cZ a_this a_table a_rowImages a_targets a_classOf a_table_due a_table_columnsOf a_table_colours a_table_rowsOf a_table_clashesOf v_count v_table_columnCount v_table_neededCount v_table_rowCount v_rowImages) → va_S A s.heap H locs → ∀ (ls : Array Slot), lv_has ls 7 [(0, .ref a_this), (1, .int x1), (2, .long x2), (4, .long x4), (6, .int x6)] → W p l e (headSpec wsX3_wayImage rm_X3_wayImage).room s m args below meth c H locs 0 0 (MQ below (qc_X3_wayImage A dC dI cB cI cJ cZ a_this a_table a_rowImages a_targets a_classOf a_table_due a_table_columnsOf a_table_colours a_table_rowsOf a_table_clashesOf v_count v_table_columnCount v_table_neededCount v_table_rowCount v_rowImages out) args s 0 0 A) (F0 m 6 ls [])
abbrev g_X3_wayImage_0 (p : Program) (l : Launch) (e : Env) (s : State) (m : MethodId) (args : Array Value) (below : List Frame) (meth : Method) (c : Code) (A : Nat → Prop) (dC : Nat → ClassId) (dI : Nat → Nat → Nat) (cB cI cJ cZ : ClassId) (a_this a_table a_rowImages a_targets a_classOf a_table_due a_table_columnsOf a_table_colours a_table_rowsOf a_table_clashesOf : Nat) (v_count : Int32) (v_table_columnCount : Int32) (v_table_neededCount : Int32) (v_table_rowCount : Int32) (v_rowImages : (Nat → Int32)) (out : Int64 × Unit) (k : Int32 → Int64 → Option (Int64 × Unit)) : Prop := ∀ (x1 : Int32) (x2 : Int64), k x1 x2 = some out → ∀ (H : Heap) (locs : List Loc), va_P (dC, dI) vwCl (ws_X3_wayImage cB cI cJ cZ a_this a_table a_rowImages a_targets a_classOf a_table_due a_table_columnsOf a_table_colours a_table_rowsOf a_table_clashesOf v_count v_table_columnCount v_table_neededCount v_table_rowCount v_rowImages) H → va_D A (ws_X3_wayImage cB cI cJ cZ a_this a_table a_rowImages a_targets a_classOf a_table_due a_table_columnsOf a_table_colours a_table_rowsOf a_table_clashesOf v_count v_table_columnCount v_table_neededCount v_table_rowCount v_rowImages) → va_S A s.heap H locs → ∀ (ls : Array Slot), lv_has ls 7 [(0, .ref a_this), (1, .int x1), (2, .long x2)] → W p l e (headSpec wsX3_wayImage rm_X3_wayImage).room s m args below meth c H locs 0 0 (MQ below (qc_X3_wayImage A dC dI cB cI cJ cZ a_this a_table a_rowImages a_targets a_classOf a_table_due a_table_columnsOf a_table_colours a_table_rowsOf a_table_clashesOf v_count v_table_columnCount v_table_neededCount v_table_rowCount v_rowImages out) args s 0 0 A) (F0 m 0 ls [])
set_option maxHeartbeats 4000000 in
set_option maxRecDepth 100000 in
theorem w_X3_wayImage_48 {p : Program} {l : Launch} {e : Env} {s : State} {m : MethodId} {args : Array Value} {below : List Frame} {meth : Method} {c : Code} {A : Nat → Prop} {dC : Nat → ClassId} {dI : Nat → Nat → Nat} {cB cI cJ cZ : ClassId} {a_this a_table a_rowImages a_targets a_classOf a_table_due a_table_columnsOf a_table_colours a_table_rowsOf a_table_clashesOf : Nat} {v_count : Int32} {v_table_columnCount : Int32} {v_table_neededCount : Int32} {v_table_rowCount : Int32} {v_rowImages : (Nat → Int32)} {out : Int64 × Unit} (C0 : Cx RX3 cX3_wayImage (some .long) 7 wsX3_wayImage p s m args meth c A) (hK : va_K (dC, dI) vwCl (tysG cB cI cJ cZ) s) {k_6 : Int32 → Int64 → Int64 → Int32 → Option (Int64 × Unit)} (hk_6 : g_X3_wayImage_6 p l e s m args below meth c A dC dI cB cI cJ cZ a_this a_table a_rowImages a_targets a_classOf a_table_due a_table_columnsOf a_table_colours a_table_rowsOf a_table_clashesOf v_count v_table_columnCount v_table_neededCount v_table_rowCount v_rowImages out k_6) : g_X3_wayImage_48 p l e s m args below meth c A dC dI cB cI cJ cZ a_this a_table a_rowImages a_targets a_classOf a_table_due a_table_columnsOf a_table_colours a_table_rowsOf a_table_clashesOf v_count v_table_columnCount v_table_neededCount v_table_rowCount v_rowImages out (f_X3_wayImage_48 v_table_rowCount v_rowImages k_6) := by
  obtain ⟨hx, hb, hr, hml, hown, hts, hlocks, hA⟩ := id C0
  intro x1 x2 x4 x6 hf H locs hP hD hS ls hl
  replace hf : ((k_6 x1 x2 x4 (x6 + 1)) : Option (Int64 × Unit)) = some out := hf
  refine lv_iinc (v := (x6 + 1)) (lv' := [(6, .int (x6 + 1)), (0, .ref a_this), (1, .int x1), (2, .long x2), (4, .long x4)]) hx hb dX3_wayImage_48 hl (k := 4) rfl rfl (by decide) rfl (fun ls hl => ?_)
  refine lv_goto (tgt := 6) hx hb dX3_wayImage_51 (by decide) ?_
  exact hk_6 x1 x2 x4 (x6 + 1) hf _ _ hP hD hS ls (lv_sub hl [1, 2, 3, 4, 0] rfl)
set_option maxHeartbeats 4000000 in
set_option maxRecDepth 100000 in
theorem w_X3_wayImage_6 {p : Program} {l : Launch} {e : Env} {s : State} {m : MethodId} {args : Array Value} {below : List Frame} {meth : Method} {c : Code} {A : Nat → Prop} {dC : Nat → ClassId} {dI : Nat → Nat → Nat} {cB cI cJ cZ : ClassId} {a_this a_table a_rowImages a_targets a_classOf a_table_due a_table_columnsOf a_table_colours a_table_rowsOf a_table_clashesOf : Nat} {v_count : Int32} {v_table_columnCount : Int32} {v_table_neededCount : Int32} {v_table_rowCount : Int32} {v_rowImages : (Nat → Int32)} {out : Int64 × Unit} (C0 : Cx RX3 cX3_wayImage (some .long) 7 wsX3_wayImage p s m args meth c A) (hK : va_K (dC, dI) vwCl (tysG cB cI cJ cZ) s)  : ∀ n : Nat, g_X3_wayImage_6 p l e s m args below meth c A dC dI cB cI cJ cZ a_this a_table a_rowImages a_targets a_classOf a_table_due a_table_columnsOf a_table_colours a_table_rowsOf a_table_clashesOf v_count v_table_columnCount v_table_neededCount v_table_rowCount v_rowImages out (f_X3_wayImage_6 v_table_rowCount v_rowImages  n) := by
  obtain ⟨hx, hb, hr, hml, hown, hts, hlocks, hA⟩ := id C0
  intro n
  induction n with
  | zero =>
    intro x1 x2 x4 x6 hf H locs hP hD hS ls hl
    exact nomatch (show (none : Option (Int64 × Unit)) = some out from hf)
  | succ n ih =>
    intro x1 x2 x4 x6 hf H locs hP hD hS ls hl
    replace hf : ((if v_table_rowCount ≤ x6 then
  (some ((x4, ())))
  else
  (if (lg_cmp ((x2 >>> (Int32.toInt64 x6 &&& 63)) &&& (1 : Int64)) (0 : Int64)) = 0 then
  (f_X3_wayImage_48 v_table_rowCount v_rowImages (f_X3_wayImage_6 v_table_rowCount v_rowImages n) x1 x2 x4 x6)
  else
  (if (((x1 * (60 : Int32)) + x6) < 0 ∨ 480 ≤ Int32.toNatClampNeg ((x1 * (60 : Int32)) + x6)) then none else
  f_X3_wayImage_48 v_table_rowCount v_rowImages (f_X3_wayImage_6 v_table_rowCount v_rowImages n) x1 x2 (x4 ||| ((1 : Int64) <<< (Int32.toInt64 (v_rowImages (Int32.toNatClampNeg ((x1 * (60 : Int32)) + x6))) &&& 63))) x6))) : Option (Int64 × Unit)) = some out := hf
    refine lv_iload hx hb dX3_wayImage_6 (lv_at hl 4 rfl) ?_
    refine lv_aload_n hx hb dX3_wayImage_8 rfl (lv_at hl 0 rfl) ?_
    refine va_get (D := (dC, dI)) (ci := 4) (v := .ref a_table) (C := RX3) (T := TX3) (N := 5) hx hb hts in_X3_wayImage_X3 hown hK hP 0 rfl rfl 0 (by decide) (hts (.fieldLink RX3 21 "LinkedCovers$Turns" "table" "LLinkedCovers$Table;") lk_X3_wayImage_f21) (fun _ h9 => h9) rfl dX3_wayImage_9 ?_
    refine va_get (D := (dC, dI)) (ci := 3) (v := .int v_table_rowCount) (C := RX2) (T := TX2) (N := 8) hx hb hts in_X3_wayImage_X2 hown hK hP 1 rfl rfl 7 (by decide) (hts (.fieldLink RX3 44 "LinkedCovers$Table" "rowCount" "I") lk_X3_wayImage_f44) (fun _ h9 => h9) rfl dX3_wayImage_12 ?_
    refine lv_icmp_ge (tgt := 54) hx hb dX3_wayImage_15 (by decide) (fun c_1 => ?_) (fun c_1 => ?_)
    · replace hf := (if_pos c_1).symm.trans hf
      refine lv_lload hx hb dX3_wayImage_54 (lv_at hl 3 rfl) ?_
      have h9 := Option.some.inj hf
      have h8 := congrArg Prod.fst h9
      have h7 := congrArg Prod.snd h9
      exact W.lret (v := x4) hx hb hr (fun t ht hW => ⟨⟨x4, (), rfl, ⟨h8, h7⟩, by rw [ht]; exact hP, va_K.moved hW.alike hK, hD⟩, hS.F ht⟩) hS.2.2 dX3_wayImage_56
    · replace hf := (if_neg c_1).symm.trans hf
      refine lv_lload_n hx hb dX3_wayImage_18 rfl (lv_at hl 2 rfl) ?_
      refine lv_iload hx hb dX3_wayImage_19 (lv_at hl 4 rfl) ?_
      refine lv_lshr (v := (x2 >>> (Int32.toInt64 x6 &&& 63))) hx hb dX3_wayImage_21 rfl ?_
      refine lv_lconst (v := 1) hx hb dX3_wayImage_22 (by decide) ?_
      refine lv_land hx hb dX3_wayImage_23 ?_
      refine lv_lconst (v := 0) hx hb dX3_wayImage_24 (by decide) ?_
      refine W.lcmp hx hb dX3_wayImage_25 ?_
      refine lv_if_eq (tgt := 48) hx hb dX3_wayImage_26 (by decide) (fun c_2 => ?_) (fun c_2 => ?_)
      · replace hf := (if_pos c_2).symm.trans hf
        exact w_X3_wayImage_48 C0 hK ih x1 x2 x4 x6 hf _ _ hP hD hS ls (lv_sub hl [0, 1, 2, 3, 4] rfl)
      · replace hf := (if_neg c_2).symm.trans hf
        refine lv_lload hx hb dX3_wayImage_29 (lv_at hl 3 rfl) ?_
        refine lv_lconst (v := 1) hx hb dX3_wayImage_31 (by decide) ?_
        refine lv_aload_n hx hb dX3_wayImage_32 rfl (lv_at hl 0 rfl) ?_
        refine va_get (D := (dC, dI)) (ci := 4) (v := .ref a_rowImages) (C := RX3) (T := TX3) (N := 5) hx hb hts in_X3_wayImage_X3 hown hK hP 0 rfl rfl 2 (by decide) (hts (.fieldLink RX3 15 "LinkedCovers$Turns" "rowImages" "[I") lk_X3_wayImage_f15) (fun _ h9 => h9) rfl dX3_wayImage_33 ?_
        refine lv_iload_n hx hb dX3_wayImage_36 rfl (lv_at hl 1 rfl) ?_
        refine lv_bipush (v := 60) hx hb dX3_wayImage_37 (by decide) ?_
        refine lv_imul hx hb dX3_wayImage_39 ?_
        refine lv_iload hx hb dX3_wayImage_40 (lv_at hl 4 rfl) ?_
        refine lv_iadd hx hb dX3_wayImage_42 ?_
        obtain ⟨h_3, hf⟩ := gd_ck hf
        refine va_iald hx hb hK hP 2 1 rfl rfl h_3 dX3_wayImage_43 ?_
        refine lv_lshl (v := ((1 : Int64) <<< (Int32.toInt64 (v_rowImages (Int32.toNatClampNeg ((x1 * (60 : Int32)) + x6))) &&& 63))) hx hb dX3_wayImage_44 rfl ?_
        refine lv_lor hx hb dX3_wayImage_45 ?_
        refine lv_lstore (lv' := [(4, .long (x4 ||| ((1 : Int64) <<< (Int32.toInt64 (v_rowImages (Int32.toNatClampNeg ((x1 * (60 : Int32)) + x6))) &&& 63)))), (0, .ref a_this), (1, .int x1), (2, .long x2), (6, .int x6)]) hx hb dX3_wayImage_46 hl (by decide) rfl (fun ls hl => ?_)
        exact w_X3_wayImage_48 C0 hK ih x1 x2 (x4 ||| ((1 : Int64) <<< (Int32.toInt64 (v_rowImages (Int32.toNatClampNeg ((x1 * (60 : Int32)) + x6))) &&& 63))) x6 hf _ _ hP hD hS ls (lv_sub hl [1, 2, 3, 0, 4] rfl)
set_option maxHeartbeats 4000000 in
set_option maxRecDepth 100000 in
theorem w_X3_wayImage_0 {p : Program} {l : Launch} {e : Env} {s : State} {m : MethodId} {args : Array Value} {below : List Frame} {meth : Method} {c : Code} {A : Nat → Prop} {dC : Nat → ClassId} {dI : Nat → Nat → Nat} {cB cI cJ cZ : ClassId} {a_this a_table a_rowImages a_targets a_classOf a_table_due a_table_columnsOf a_table_colours a_table_rowsOf a_table_clashesOf : Nat} {v_count : Int32} {v_table_columnCount : Int32} {v_table_neededCount : Int32} {v_table_rowCount : Int32} {v_rowImages : (Nat → Int32)} {out : Int64 × Unit} (C0 : Cx RX3 cX3_wayImage (some .long) 7 wsX3_wayImage p s m args meth c A) (hK : va_K (dC, dI) vwCl (tysG cB cI cJ cZ) s)  : g_X3_wayImage_0 p l e s m args below meth c A dC dI cB cI cJ cZ a_this a_table a_rowImages a_targets a_classOf a_table_due a_table_columnsOf a_table_colours a_table_rowsOf a_table_clashesOf v_count v_table_columnCount v_table_neededCount v_table_rowCount v_rowImages out (f_X3_wayImage v_table_rowCount v_rowImages ) := by
  obtain ⟨hx, hb, hr, hml, hown, hts, hlocks, hA⟩ := id C0
  intro x1 x2 hf H locs hP hD hS ls hl
  replace hf : ((f_X3_wayImage_6 v_table_rowCount v_rowImages 1000000 x1 x2 (0 : Int64) (0 : Int32)) : Option (Int64 × Unit)) = some out := hf
  refine lv_lconst (v := 0) hx hb dX3_wayImage_0 (by decide) ?_
  refine lv_lstore (lv' := [(4, .long (0 : Int64)), (0, .ref a_this), (1, .int x1), (2, .long x2)]) hx hb dX3_wayImage_1 hl (by decide) rfl (fun ls hl => ?_)
  refine lv_iconst (v := 0) hx hb dX3_wayImage_3 (by decide) ?_
  refine lv_istore (lv' := [(6, .int (0 : Int32)), (4, .long (0 : Int64)), (0, .ref a_this), (1, .int x1), (2, .long x2)]) hx hb dX3_wayImage_4 hl (by decide) rfl (fun ls hl => ?_)
  exact w_X3_wayImage_6 C0 hK 1000000 x1 x2 (0 : Int64) (0 : Int32) hf _ _ hP hD hS ls (lv_sub hl [2, 3, 4, 1, 0] rfl)
theorem nd_X3_wayImage : yX3_wayImage.cls ≠ "java/lang/invoke/MethodHandle" ∧ yX3_wayImage.cls ≠ "java/lang/invoke/VarHandle" ∧ (parseMethodDescriptor yX3_wayImage.desc).map (fun d => d.parameters.length) = some 2 := by decide +kernel
set_option maxHeartbeats 4000000 in
set_option maxRecDepth 100000 in
theorem c_X3_wayImage (l : Launch) (dC : Nat → ClassId) (dI : Nat → Nat → Nat) (cB cI cJ cZ : ClassId) (a_this a_table a_rowImages a_targets a_classOf a_table_due a_table_columnsOf a_table_colours a_table_rowsOf a_table_clashesOf : Nat) (sz : Nat) (v_count : Int32) (v_table_columnCount : Int32) (v_table_neededCount : Int32) (v_table_rowCount : Int32) (v_rowImages : (Nat → Int32)) (x1 : Int32) (x2 : Int64) (out : Int64 × Unit) (hf : f_X3_wayImage v_table_rowCount v_rowImages x1 x2 = some out) : Met l yX3_wayImage wsX3_wayImage rm_X3_wayImage (va_Pc [.ref a_this, .int x1, .long x2] (fun U => U.heap.size = sz ∧ va_P (dC, dI) vwCl (ws_X3_wayImage cB cI cJ cZ a_this a_table a_rowImages a_targets a_classOf a_table_due a_table_columnsOf a_table_colours a_table_rowsOf a_table_clashesOf v_count v_table_columnCount v_table_neededCount v_table_rowCount v_rowImages) U.heap ∧ va_K (dC, dI) vwCl (tysG cB cI cJ cZ) U ∧ va_D (fun _ => True) (ws_X3_wayImage cB cI cJ cZ a_this a_table a_rowImages a_targets a_classOf a_table_due a_table_columnsOf a_table_colours a_table_rowsOf a_table_clashesOf v_count v_table_columnCount v_table_neededCount v_table_rowCount v_rowImages))) (qc_X3_wayImage (va_A (ws_X3_wayImage cB cI cJ cZ a_this a_table a_rowImages a_targets a_classOf a_table_due a_table_columnsOf a_table_colours a_table_rowsOf a_table_clashesOf v_count v_table_columnCount v_table_neededCount v_table_rowCount v_rowImages) sz) dC dI cB cI cJ cZ a_this a_table a_rowImages a_targets a_classOf a_table_due a_table_columnsOf a_table_colours a_table_rowsOf a_table_clashesOf v_count v_table_columnCount v_table_neededCount v_table_rowCount v_rowImages out) 0 0 (va_A (ws_X3_wayImage cB cI cJ cZ a_this a_table a_rowImages a_targets a_classOf a_table_due a_table_columnsOf a_table_colours a_table_rowsOf a_table_clashesOf v_count v_table_columnCount v_table_neededCount v_table_rowCount v_rowImages) sz) := by
  refine Met.ofW (cc := cX3_wayImage) (maxL := 7) (ret := (some .long)) (by decide) rfl ?_
  intro p e s m args below meth c s₁ B hml hv
  obtain ⟨rfl, hsz, hP, hK, hD0⟩ := hv
  subst hsz
  have hD := hD0.self (sz := s.heap.size)
  generalize hAe : va_A (ws_X3_wayImage cB cI cJ cZ a_this a_table a_rowImages a_targets a_classOf a_table_due a_table_columnsOf a_table_colours a_table_rowsOf a_table_clashesOf v_count v_table_columnCount v_table_neededCount v_table_rowCount v_rowImages) s.heap.size = A at hD ⊢
  have hA : ∀ q : Nat, s.heap.size ≤ q → A q := fun q h => by rw [← hAe]; exact Or.inr h
  have hl := lv_entry ([.ref a_this, .int x1, .long x2]) (n := 7) (Nat.le_of_ble_eq_true rfl)
  rw [lg_entry_eq]
  generalize (lg_sl ([.ref a_this, .int x1, .long x2]) ++ List.replicate (7 - (lg_sl ([.ref a_this, .int x1, .long x2])).length) Slot.unset).toArray = ls at hl ⊢
  have hl : lv_has ls 7 [(0, .ref a_this), (1, .int x1), (2, .long x2)] := hl
  exact w_X3_wayImage_0 ⟨B.exec, B.bytes, B.returns, hml, findClass_of_methodNamed B.named, atoms_spec (ws := wsX3_wayImage) B.pre, B.notSynchronized, hA⟩ hK x1 x2 hf _ _ hP hD va_S.rf ls (lv_sub hl [0, 1, 2] rfl)
-- X3.indexOf([JIJ)I: 17 instructions
abbrev ws_X3_indexOf (cB cI cJ cZ : ClassId) (a_p0 : Nat) (v_p0 : (Nat → Int64)) : va_W := [(a_p0, .inl (cJ, 100, .inr (.inl v_p0)))]
abbrev rm_X3_indexOf : Room := { frames := 0, cells := 0, slots := 0, locals := 0 }
def f_X3_indexOf_3 (v_p0 : (Nat → Int64))  : Nat → Int32 → Int64 → Int32 → Option (Int32 × Unit)
  | 0 => fun _ _ _ => none
  | n + 1 => fun x1 x2 x4 => if x1 ≤ x4 then
  (some (((-1 : Int32), ())))
  else
  (if (x4 < 0 ∨ 100 ≤ Int32.toNatClampNeg x4) then none else
  if (lg_cmp (v_p0 (Int32.toNatClampNeg x4)) x2) = 0 then
  (some ((x4, ())))
  else
  (f_X3_indexOf_3 v_p0 n x1 x2 (x4 + 1)))
def f_X3_indexOf (v_p0 : (Nat → Int64))  (x1 : Int32) (x2 : Int64) : Option (Int32 × Unit) :=
  f_X3_indexOf_3 v_p0 1000000 x1 x2 (0 : Int32)
abbrev qc_X3_indexOf (A : Nat → Prop) (dC : Nat → ClassId) (dI : Nat → Nat → Nat) (cB cI cJ cZ : ClassId) (a_p0 : Nat) (v_p0 : (Nat → Int64)) (out : Int32 × Unit) : Array Value → State → Outcome → State → Prop := va_Qi (fun (r : Int32) (u : Unit) => r = out.1 ∧ u = out.2) (fun (u : Unit) (t : State) => va_P (dC, dI) vwCl (ws_X3_indexOf cB cI cJ cZ a_p0 v_p0) t.heap ∧ va_K (dC, dI) vwCl (tysG cB cI cJ cZ) t ∧ va_D A (ws_X3_indexOf cB cI cJ cZ a_p0 v_p0)) A
abbrev g_X3_indexOf_3 (p : Program) (l : Launch) (e : Env) (s : State) (m : MethodId) (args : Array Value) (below : List Frame) (meth : Method) (c : Code) (A : Nat → Prop) (dC : Nat → ClassId) (dI : Nat → Nat → Nat) (cB cI cJ cZ : ClassId) (a_p0 : Nat) (v_p0 : (Nat → Int64)) (out : Int32 × Unit) (k : Int32 → Int64 → Int32 → Option (Int32 × Unit)) : Prop := ∀ (x1 : Int32) (x2 : Int64) (x4 : Int32), k x1 x2 x4 = some out → ∀ (H : Heap) (locs : List Loc), va_P (dC, dI) vwCl (ws_X3_indexOf cB cI cJ cZ a_p0 v_p0) H → va_D A (ws_X3_indexOf cB cI cJ cZ a_p0 v_p0) → va_S A s.heap H locs → ∀ (ls : Array Slot), lv_has ls 5 [(0, .ref a_p0), (1, .int x1), (2, .long x2), (4, .int x4)] → W p l e (headSpec wsX3_indexOf rm_X3_indexOf).room s m args below meth c H locs 0 0 (MQ below (qc_X3_indexOf A dC dI cB cI cJ cZ a_p0 v_p0 out) args s 0 0 A) (F0 m 3 ls [])
abbrev g_X3_indexOf_0 (p : Program) (l : Launch) (e : Env) (s : State) (m : MethodId) (args : Array Value) (below : List Frame) (meth : Method) (c : Code) (A : Nat → Prop) (dC : Nat → ClassId) (dI : Nat → Nat → Nat) (cB cI cJ cZ : ClassId) (a_p0 : Nat) (v_p0 : (Nat → Int64)) (out : Int32 × Unit) (k : Int32 → Int64 → Option (Int32 × Unit)) : Prop := ∀ (x1 : Int32) (x2 : Int64), k x1 x2 = some out → ∀ (H : Heap) (locs : List Loc), va_P (dC, dI) vwCl (ws_X3_indexOf cB cI cJ cZ a_p0 v_p0) H → va_D A (ws_X3_indexOf cB cI cJ cZ a_p0 v_p0) → va_S A s.heap H locs → ∀ (ls : Array Slot), lv_has ls 5 [(0, .ref a_p0), (1, .int x1), (2, .long x2)] → W p l e (headSpec wsX3_indexOf rm_X3_indexOf).room s m args below meth c H locs 0 0 (MQ below (qc_X3_indexOf A dC dI cB cI cJ cZ a_p0 v_p0 out) args s 0 0 A) (F0 m 0 ls [])
set_option maxHeartbeats 4000000 in
set_option maxRecDepth 100000 in
theorem w_X3_indexOf_3 {p : Program} {l : Launch} {e : Env} {s : State} {m : MethodId} {args : Array Value} {below : List Frame} {meth : Method} {c : Code} {A : Nat → Prop} {dC : Nat → ClassId} {dI : Nat → Nat → Nat} {cB cI cJ cZ : ClassId} {a_p0 : Nat} {v_p0 : (Nat → Int64)} {out : Int32 × Unit} (C0 : Cx RX3 cX3_indexOf (some .int) 5 wsX3_indexOf p s m args meth c A) (hK : va_K (dC, dI) vwCl (tysG cB cI cJ cZ) s)  : ∀ n : Nat, g_X3_indexOf_3 p l e s m args below meth c A dC dI cB cI cJ cZ a_p0 v_p0 out (f_X3_indexOf_3 v_p0  n) := by
  obtain ⟨hx, hb, hr, hml, hown, hts, hlocks, hA⟩ := id C0
  intro n
  induction n with
  | zero =>
    intro x1 x2 x4 hf H locs hP hD hS ls hl
    exact nomatch (show (none : Option (Int32 × Unit)) = some out from hf)
  | succ n ih =>
    intro x1 x2 x4 hf H locs hP hD hS ls hl
    replace hf : ((if x1 ≤ x4 then
  (some (((-1 : Int32), ())))
  else
  (if (x4 < 0 ∨ 100 ≤ Int32.toNatClampNeg x4) then none else
  if (lg_cmp (v_p0 (Int32.toNatClampNeg x4)) x2) = 0 then
  (some ((x4, ())))
  else
  (f_X3_indexOf_3 v_p0 n x1 x2 (x4 + 1)))) : Option (Int32 × Unit)) = some out := hf
    refine lv_iload hx hb dX3_indexOf_3 (lv_at hl 3 rfl) ?_
    refine lv_iload_n hx hb dX3_indexOf_5 rfl (lv_at hl 1 rfl) ?_
    refine lv_icmp_ge (tgt := 27) hx hb dX3_indexOf_6 (by decide) (fun c_1 => ?_) (fun c_1 => ?_)
    · replace hf := (if_pos c_1).symm.trans hf
      refine lv_iconst (v := -1) hx hb dX3_indexOf_27 (by decide) ?_
      have h9 := Option.some.inj hf
      have h8 := congrArg Prod.fst h9
      have h7 := congrArg Prod.snd h9
      exact W.iret (v := (-1 : Int32)) hx hb hr (fun t ht hW => ⟨⟨(-1 : Int32), (), rfl, ⟨h8, h7⟩, by rw [ht]; exact hP, va_K.moved hW.alike hK, hD⟩, hS.F ht⟩) hS.2.2 dX3_indexOf_28
    · replace hf := (if_neg c_1).symm.trans hf
      refine lv_aload_n hx hb dX3_indexOf_9 rfl (lv_at hl 0 rfl) ?_
      refine lv_iload hx hb dX3_indexOf_10 (lv_at hl 3 rfl) ?_
      obtain ⟨h_2, hf⟩ := gd_ck hf
      refine va_lald hx hb hK hP 0 2 rfl rfl h_2 dX3_indexOf_12 ?_
      refine lv_lload_n hx hb dX3_indexOf_13 rfl (lv_at hl 2 rfl) ?_
      refine W.lcmp hx hb dX3_indexOf_14 ?_
      refine lv_if_ne (tgt := 21) hx hb dX3_indexOf_15 (by decide) (fun c_3 => ?_) (fun c_3 => ?_)
      · replace hf := (if_neg c_3).symm.trans hf
        refine lv_iinc (v := (x4 + 1)) (lv' := [(4, .int (x4 + 1)), (0, .ref a_p0), (1, .int x1), (2, .long x2)]) hx hb dX3_indexOf_21 hl (k := 3) rfl rfl (by decide) rfl (fun ls hl => ?_)
        refine lv_goto (tgt := 3) hx hb dX3_indexOf_24 (by decide) ?_
        exact ih x1 x2 (x4 + 1) hf _ _ hP hD hS ls (lv_sub hl [1, 2, 3, 0] rfl)
      · replace hf := (if_pos c_3).symm.trans hf
        refine lv_iload hx hb dX3_indexOf_18 (lv_at hl 3 rfl) ?_
        have h9 := Option.some.inj hf
        have h8 := congrArg Prod.fst h9
        have h7 := congrArg Prod.snd h9
        exact W.iret (v := x4) hx hb hr (fun t ht hW => ⟨⟨x4, (), rfl, ⟨h8, h7⟩, by rw [ht]; exact hP, va_K.moved hW.alike hK, hD⟩, hS.F ht⟩) hS.2.2 dX3_indexOf_20
set_option maxHeartbeats 4000000 in
set_option maxRecDepth 100000 in
theorem w_X3_indexOf_0 {p : Program} {l : Launch} {e : Env} {s : State} {m : MethodId} {args : Array Value} {below : List Frame} {meth : Method} {c : Code} {A : Nat → Prop} {dC : Nat → ClassId} {dI : Nat → Nat → Nat} {cB cI cJ cZ : ClassId} {a_p0 : Nat} {v_p0 : (Nat → Int64)} {out : Int32 × Unit} (C0 : Cx RX3 cX3_indexOf (some .int) 5 wsX3_indexOf p s m args meth c A) (hK : va_K (dC, dI) vwCl (tysG cB cI cJ cZ) s)  : g_X3_indexOf_0 p l e s m args below meth c A dC dI cB cI cJ cZ a_p0 v_p0 out (f_X3_indexOf v_p0 ) := by
  obtain ⟨hx, hb, hr, hml, hown, hts, hlocks, hA⟩ := id C0
  intro x1 x2 hf H locs hP hD hS ls hl
  replace hf : ((f_X3_indexOf_3 v_p0 1000000 x1 x2 (0 : Int32)) : Option (Int32 × Unit)) = some out := hf
  refine lv_iconst (v := 0) hx hb dX3_indexOf_0 (by decide) ?_
  refine lv_istore (lv' := [(4, .int (0 : Int32)), (0, .ref a_p0), (1, .int x1), (2, .long x2)]) hx hb dX3_indexOf_1 hl (by decide) rfl (fun ls hl => ?_)
  exact w_X3_indexOf_3 C0 hK 1000000 x1 x2 (0 : Int32) hf _ _ hP hD hS ls (lv_sub hl [1, 2, 3, 0] rfl)
theorem nd_X3_indexOf : yX3_indexOf.cls ≠ "java/lang/invoke/MethodHandle" ∧ yX3_indexOf.cls ≠ "java/lang/invoke/VarHandle" ∧ (parseMethodDescriptor yX3_indexOf.desc).map (fun d => d.parameters.length) = some 3 := by decide +kernel
set_option maxHeartbeats 4000000 in
set_option maxRecDepth 100000 in
theorem c_X3_indexOf (l : Launch) (dC : Nat → ClassId) (dI : Nat → Nat → Nat) (cB cI cJ cZ : ClassId) (a_p0 : Nat) (sz : Nat) (v_p0 : (Nat → Int64)) (x1 : Int32) (x2 : Int64) (out : Int32 × Unit) (hf : f_X3_indexOf v_p0 x1 x2 = some out) : Met l yX3_indexOf wsX3_indexOf rm_X3_indexOf (va_Pc [.ref a_p0, .int x1, .long x2] (fun U => U.heap.size = sz ∧ va_P (dC, dI) vwCl (ws_X3_indexOf cB cI cJ cZ a_p0 v_p0) U.heap ∧ va_K (dC, dI) vwCl (tysG cB cI cJ cZ) U ∧ va_D (fun _ => True) (ws_X3_indexOf cB cI cJ cZ a_p0 v_p0))) (qc_X3_indexOf (va_A (ws_X3_indexOf cB cI cJ cZ a_p0 v_p0) sz) dC dI cB cI cJ cZ a_p0 v_p0 out) 0 0 (va_A (ws_X3_indexOf cB cI cJ cZ a_p0 v_p0) sz) := by
  refine Met.ofW (cc := cX3_indexOf) (maxL := 5) (ret := (some .int)) (by decide) rfl ?_
  intro p e s m args below meth c s₁ B hml hv
  obtain ⟨rfl, hsz, hP, hK, hD0⟩ := hv
  subst hsz
  have hD := hD0.self (sz := s.heap.size)
  generalize hAe : va_A (ws_X3_indexOf cB cI cJ cZ a_p0 v_p0) s.heap.size = A at hD ⊢
  have hA : ∀ q : Nat, s.heap.size ≤ q → A q := fun q h => by rw [← hAe]; exact Or.inr h
  have hl := lv_entry ([.ref a_p0, .int x1, .long x2]) (n := 5) (Nat.le_of_ble_eq_true rfl)
  rw [lg_entry_eq]
  generalize (lg_sl ([.ref a_p0, .int x1, .long x2]) ++ List.replicate (5 - (lg_sl ([.ref a_p0, .int x1, .long x2])).length) Slot.unset).toArray = ls at hl ⊢
  have hl : lv_has ls 5 [(0, .ref a_p0), (1, .int x1), (2, .long x2)] := hl
  exact w_X3_indexOf_0 ⟨B.exec, B.bytes, B.returns, hml, findClass_of_methodNamed B.named, atoms_spec (ws := wsX3_indexOf) B.pre, B.notSynchronized, hA⟩ hK x1 x2 hf _ _ hP hD va_S.rf ls (lv_sub hl [0, 1, 2] rfl)
-- X3.joinClasses(III)V: 19 instructions
theorem in_X3_joinClasses_X3 : ∀ w ∈ wsX30, w ∈ wsX3_joinClasses := by decide +kernel
abbrev ws_X3_joinClasses (cB cI cJ cZ : ClassId) (a_this a_classOf a_table a_targets a_rowImages : Nat) (v_count : Int32) (v_classOf : (Nat → Int32)) : va_W := [(a_this, .inr (4, [.ref a_table, .ref a_targets, .ref a_rowImages, .ref a_classOf, .int v_count])), (a_classOf, .inl (cI, 100, .inl v_classOf))]
abbrev rm_X3_joinClasses : Room := { frames := 0, cells := 0, slots := 0, locals := 0 }
theorem lk_X3_joinClasses_f18 : Cond.fieldLink RX3 18 "LinkedCovers$Turns" "classOf" "[I" ∈ wsX3_joinClasses := by decide +kernel
def f_X3_joinClasses_28  (k_3 : (Nat → Int32) → Int32 → Int32 → Int32 → Int32 → Option ((Nat → Int32))) (v_classOf : (Nat → Int32)) (x1 : Int32) (x2 : Int32) (x3 : Int32) (x4 : Int32) : Option ((Nat → Int32)) :=
  k_3 v_classOf x1 x2 x3 (x4 + 1)
def f_X3_joinClasses_3   : Nat → (Nat → Int32) → Int32 → Int32 → Int32 → Int32 → Option ((Nat → Int32))
  | 0 => fun _ _ _ _ _ => none
  | n + 1 => fun v_classOf x1 x2 x3 x4 => if x3 ≤ x4 then
  (some (v_classOf))
  else
  (if (x4 < 0 ∨ 100 ≤ Int32.toNatClampNeg x4) then none else
  if (v_classOf (Int32.toNatClampNeg x4)) = x1 then
  (if (x4 < 0 ∨ 100 ≤ Int32.toNatClampNeg x4) then none else
  f_X3_joinClasses_28 (f_X3_joinClasses_3 n) (upd v_classOf (Int32.toNatClampNeg x4) x2) x1 x2 x3 x4)
  else
  (f_X3_joinClasses_28 (f_X3_joinClasses_3 n) v_classOf x1 x2 x3 x4))
def f_X3_joinClasses   (v_classOf : (Nat → Int32)) (x1 : Int32) (x2 : Int32) (x3 : Int32) : Option ((Nat → Int32)) :=
  f_X3_joinClasses_3 1000000 v_classOf x1 x2 x3 (0 : Int32)
abbrev qc_X3_joinClasses (A : Nat → Prop) (dC : Nat → ClassId) (dI : Nat → Nat → Nat) (cB cI cJ cZ : ClassId) (a_this a_classOf a_table a_targets a_rowImages : Nat) (v_count : Int32) (out : (Nat → Int32)) : Array Value → State → Outcome → State → Prop := va_Qv (fun u : (Nat → Int32) => u = out) (fun (u : (Nat → Int32)) (t : State) => va_P (dC, dI) vwCl (ws_X3_joinClasses cB cI cJ cZ a_this a_classOf a_table a_targets a_rowImages v_count u) t.heap ∧ va_K (dC, dI) vwCl (tysG cB cI cJ cZ) t ∧ va_D A (ws_X3_joinClasses cB cI cJ cZ a_this a_classOf a_table a_targets a_rowImages v_count u)) A
abbrev g_X3_joinClasses_28 (p : Program) (l : Launch) (e : Env) (s : State) (m : MethodId) (args : Array Value) (below : List Frame) (meth : Method) (c : Code) (A : Nat → Prop) (dC : Nat → ClassId) (dI : Nat → Nat → Nat) (cB cI cJ cZ : ClassId) (a_this a_classOf a_table a_targets a_rowImages : Nat) (v_count : Int32) (out : (Nat → Int32)) (k : (Nat → Int32) → Int32 → Int32 → Int32 → Int32 → Option ((Nat → Int32))) : Prop := ∀ (v_classOf : (Nat → Int32)) (x1 : Int32) (x2 : Int32) (x3 : Int32) (x4 : Int32), k v_classOf x1 x2 x3 x4 = some out → ∀ (H : Heap) (locs : List Loc), va_P (dC, dI) vwCl (ws_X3_joinClasses cB cI cJ cZ a_this a_classOf a_table a_targets a_rowImages v_count v_classOf) H → va_D A (ws_X3_joinClasses cB cI cJ cZ a_this a_classOf a_table a_targets a_rowImages v_count v_classOf) → va_S A s.heap H locs → ∀ (ls : Array Slot), lv_has ls 5 [(0, .ref a_this), (1, .int x1), (2, .int x2), (3, .int x3), (4, .int x4)] → W p l e (headSpec wsX3_joinClasses rm_X3_joinClasses).room s m args below meth c H locs 0 0 (MQ below (qc_X3_joinClasses A dC dI cB cI cJ cZ a_this a_classOf a_table a_targets a_rowImages v_count out) args s 0 0 A) (F0 m 28 ls [])
abbrev g_X3_joinClasses_3 (p : Program) (l : Launch) (e : Env) (s : State) (m : MethodId) (args : Array Value) (below : List Frame) (meth : Method) (c : Code) (A : Nat → Prop) (dC : Nat → ClassId) (dI : Nat → Nat → Nat) (cB cI cJ cZ : ClassId) (a_this a_classOf a_table a_targets a_rowImages : Nat) (v_count : Int32) (out : (Nat → Int32)) (k : (Nat → Int32) → Int32 → Int32 → Int32 → Int32 → Option ((Nat → Int32))) : Prop := ∀ (v_classOf : (Nat → Int32)) (x1 : Int32) (x2 : Int32) (x3 : Int32) (x4 : Int32), k v_classOf x1 x2 x3 x4 = some out → ∀ (H : Heap) (locs : List Loc), va_P (dC, dI) vwCl (ws_X3_joinClasses cB cI cJ cZ a_this a_classOf a_table a_targets a_rowImages v_count v_classOf) H → va_D A (ws_X3_joinClasses cB cI cJ cZ a_this a_classOf a_table a_targets a_rowImages v_count v_classOf) → va_S A s.heap H locs → ∀ (ls : Array Slot), lv_has ls 5 [(0, .ref a_this), (1, .int x1), (2, .int x2), (3, .int x3), (4, .int x4)] → W p l e (headSpec wsX3_joinClasses rm_X3_joinClasses).room s m args below meth c H locs 0 0 (MQ below (qc_X3_joinClasses A dC dI cB cI cJ cZ a_this a_classOf a_table a_targets a_rowImages v_count out) args s 0 0 A) (F0 m 3 ls [])
abbrev g_X3_joinClasses_0 (p : Program) (l : Launch) (e : Env) (s : State) (m : MethodId) (args : Array Value) (below : List Frame) (meth : Method) (c : Code) (A : Nat → Prop) (dC : Nat → ClassId) (dI : Nat → Nat → Nat) (cB cI cJ cZ : ClassId) (a_this a_classOf a_table a_targets a_rowImages : Nat) (v_count : Int32) (out : (Nat → Int32)) (k : (Nat → Int32) → Int32 → Int32 → Int32 → Option ((Nat → Int32))) : Prop := ∀ (v_classOf : (Nat → Int32)) (x1 : Int32) (x2 : Int32) (x3 : Int32), k v_classOf x1 x2 x3 = some out → ∀ (H : Heap) (locs : List Loc), va_P (dC, dI) vwCl (ws_X3_joinClasses cB cI cJ cZ a_this a_classOf a_table a_targets a_rowImages v_count v_classOf) H → va_D A (ws_X3_joinClasses cB cI cJ cZ a_this a_classOf a_table a_targets a_rowImages v_count v_classOf) → va_S A s.heap H locs → ∀ (ls : Array Slot), lv_has ls 5 [(0, .ref a_this), (1, .int x1), (2, .int x2), (3, .int x3)] → W p l e (headSpec wsX3_joinClasses rm_X3_joinClasses).room s m args below meth c H locs 0 0 (MQ below (qc_X3_joinClasses A dC dI cB cI cJ cZ a_this a_classOf a_table a_targets a_rowImages v_count out) args s 0 0 A) (F0 m 0 ls [])
set_option maxHeartbeats 4000000 in
set_option maxRecDepth 100000 in
theorem w_X3_joinClasses_28 {p : Program} {l : Launch} {e : Env} {s : State} {m : MethodId} {args : Array Value} {below : List Frame} {meth : Method} {c : Code} {A : Nat → Prop} {dC : Nat → ClassId} {dI : Nat → Nat → Nat} {cB cI cJ cZ : ClassId} {a_this a_classOf a_table a_targets a_rowImages : Nat} {v_count : Int32} {out : (Nat → Int32)} (C0 : Cx RX3 cX3_joinClasses none 5 wsX3_joinClasses p s m args meth c A) (hK : va_K (dC, dI) vwCl (tysG cB cI cJ cZ) s) {k_3 : (Nat → Int32) → Int32 → Int32 → Int32 → Int32 → Option ((Nat → Int32))} (hk_3 : g_X3_joinClasses_3 p l e s m args below meth c A dC dI cB cI cJ cZ a_this a_classOf a_table a_targets a_rowImages v_count out k_3) : g_X3_joinClasses_28 p l e s m args below meth c A dC dI cB cI cJ cZ a_this a_classOf a_table a_targets a_rowImages v_count out (f_X3_joinClasses_28  k_3) := by
  obtain ⟨hx, hb, hr, hml, hown, hts, hlocks, hA⟩ := id C0
  intro v_classOf x1 x2 x3 x4 hf H locs hP hD hS ls hl
  replace hf : ((k_3 v_classOf x1 x2 x3 (x4 + 1)) : Option ((Nat → Int32))) = some out := hf
  refine lv_iinc (v := (x4 + 1)) (lv' := [(4, .int (x4 + 1)), (0, .ref a_this), (1, .int x1), (2, .int x2), (3, .int x3)]) hx hb dX3_joinClasses_28 hl (k := 4) rfl rfl (by decide) rfl (fun ls hl => ?_)
  refine lv_goto (tgt := 3) hx hb dX3_joinClasses_31 (by decide) ?_
  exact hk_3 v_classOf x1 x2 x3 (x4 + 1) hf _ _ hP hD hS ls (lv_sub hl [1, 2, 3, 4, 0] rfl)
set_option maxHeartbeats 4000000 in
set_option maxRecDepth 100000 in
theorem w_X3_joinClasses_3 {p : Program} {l : Launch} {e : Env} {s : State} {m : MethodId} {args : Array Value} {below : List Frame} {meth : Method} {c : Code} {A : Nat → Prop} {dC : Nat → ClassId} {dI : Nat → Nat → Nat} {cB cI cJ cZ : ClassId} {a_this a_classOf a_table a_targets a_rowImages : Nat} {v_count : Int32} {out : (Nat → Int32)} (C0 : Cx RX3 cX3_joinClasses none 5 wsX3_joinClasses p s m args meth c A) (hK : va_K (dC, dI) vwCl (tysG cB cI cJ cZ) s)  : ∀ n : Nat, g_X3_joinClasses_3 p l e s m args below meth c A dC dI cB cI cJ cZ a_this a_classOf a_table a_targets a_rowImages v_count out (f_X3_joinClasses_3   n) := by
  obtain ⟨hx, hb, hr, hml, hown, hts, hlocks, hA⟩ := id C0
  intro n
  induction n with
  | zero =>
    intro v_classOf x1 x2 x3 x4 hf H locs hP hD hS ls hl
    exact nomatch (show (none : Option ((Nat → Int32))) = some out from hf)
  | succ n ih =>
    intro v_classOf x1 x2 x3 x4 hf H locs hP hD hS ls hl
    replace hf : ((if x3 ≤ x4 then
  (some (v_classOf))
  else
  (if (x4 < 0 ∨ 100 ≤ Int32.toNatClampNeg x4) then none else
  if (v_classOf (Int32.toNatClampNeg x4)) = x1 then
  (if (x4 < 0 ∨ 100 ≤ Int32.toNatClampNeg x4) then none else
  f_X3_joinClasses_28 (f_X3_joinClasses_3 n) (upd v_classOf (Int32.toNatClampNeg x4) x2) x1 x2 x3 x4)
  else
  (f_X3_joinClasses_28 (f_X3_joinClasses_3 n) v_classOf x1 x2 x3 x4))) : Option ((Nat → Int32))) = some out := hf
    refine lv_iload hx hb dX3_joinClasses_3 (lv_at hl 4 rfl) ?_
    refine lv_iload_n hx hb dX3_joinClasses_5 rfl (lv_at hl 3 rfl) ?_
    refine lv_icmp_ge (tgt := 34) hx hb dX3_joinClasses_6 (by decide) (fun c_1 => ?_) (fun c_1 => ?_)
    · replace hf := (if_pos c_1).symm.trans hf
      exact W.vret hx hb hr (fun t ht hW => ⟨⟨v_classOf, rfl, Option.some.inj hf, by rw [ht]; exact hP, va_K.moved hW.alike hK, hD⟩, hS.F ht⟩) hS.2.2 dX3_joinClasses_34
    · replace hf := (if_neg c_1).symm.trans hf
      refine lv_aload_n hx hb dX3_joinClasses_9 rfl (lv_at hl 0 rfl) ?_
      refine va_get (D := (dC, dI)) (ci := 4) (v := .ref a_classOf) (C := RX3) (T := TX3) (N := 5) hx hb hts in_X3_joinClasses_X3 hown hK hP 0 rfl rfl 3 (by decide) (hts (.fieldLink RX3 18 "LinkedCovers$Turns" "classOf" "[I") lk_X3_joinClasses_f18) (fun _ h9 => h9) rfl dX3_joinClasses_10 ?_
      refine lv_iload hx hb dX3_joinClasses_13 (lv_at hl 4 rfl) ?_
      obtain ⟨h_2, hf⟩ := gd_ck hf
      refine va_iald hx hb hK hP 1 1 rfl rfl h_2 dX3_joinClasses_15 ?_
      refine lv_iload_n hx hb dX3_joinClasses_16 rfl (lv_at hl 1 rfl) ?_
      refine lv_icmp_ne (tgt := 28) hx hb dX3_joinClasses_17 (by decide) (fun c_3 => ?_) (fun c_3 => ?_)
      · replace hf := (if_neg c_3).symm.trans hf
        exact w_X3_joinClasses_28 C0 hK ih v_classOf x1 x2 x3 x4 hf _ _ hP hD hS ls (lv_sub hl [0, 1, 2, 3, 4] rfl)
      · replace hf := (if_pos c_3).symm.trans hf
        refine lv_aload_n hx hb dX3_joinClasses_20 rfl (lv_at hl 0 rfl) ?_
        refine va_get (D := (dC, dI)) (ci := 4) (v := .ref a_classOf) (C := RX3) (T := TX3) (N := 5) hx hb hts in_X3_joinClasses_X3 hown hK hP 0 rfl rfl 3 (by decide) (hts (.fieldLink RX3 18 "LinkedCovers$Turns" "classOf" "[I") lk_X3_joinClasses_f18) (fun _ h9 => h9) rfl dX3_joinClasses_21 ?_
        refine lv_iload hx hb dX3_joinClasses_24 (lv_at hl 4 rfl) ?_
        refine lv_iload_n hx hb dX3_joinClasses_26 rfl (lv_at hl 2 rfl) ?_
        obtain ⟨h_4, hf⟩ := gd_ck hf
        refine va_iast hx hb hK hP hD hS 1 1 rfl rfl h_4 dX3_joinClasses_27 (fun H locs hP hD hS => ?_)
        have hP : va_P (dC, dI) vwCl (ws_X3_joinClasses cB cI cJ cZ a_this a_classOf a_table a_targets a_rowImages v_count (upd v_classOf (Int32.toNatClampNeg x4) x2)) H := hP
        have hD : va_D A (ws_X3_joinClasses cB cI cJ cZ a_this a_classOf a_table a_targets a_rowImages v_count (upd v_classOf (Int32.toNatClampNeg x4) x2)) := hD
        exact w_X3_joinClasses_28 C0 hK ih (upd v_classOf (Int32.toNatClampNeg x4) x2) x1 x2 x3 x4 hf _ _ hP hD hS ls (lv_sub hl [0, 1, 2, 3, 4] rfl)
set_option maxHeartbeats 4000000 in
set_option maxRecDepth 100000 in
theorem w_X3_joinClasses_0 {p : Program} {l : Launch} {e : Env} {s : State} {m : MethodId} {args : Array Value} {below : List Frame} {meth : Method} {c : Code} {A : Nat → Prop} {dC : Nat → ClassId} {dI : Nat → Nat → Nat} {cB cI cJ cZ : ClassId} {a_this a_classOf a_table a_targets a_rowImages : Nat} {v_count : Int32} {out : (Nat → Int32)} (C0 : Cx RX3 cX3_joinClasses none 5 wsX3_joinClasses p s m args meth c A) (hK : va_K (dC, dI) vwCl (tysG cB cI cJ cZ) s)  : g_X3_joinClasses_0 p l e s m args below meth c A dC dI cB cI cJ cZ a_this a_classOf a_table a_targets a_rowImages v_count out (f_X3_joinClasses  ) := by
  obtain ⟨hx, hb, hr, hml, hown, hts, hlocks, hA⟩ := id C0
  intro v_classOf x1 x2 x3 hf H locs hP hD hS ls hl
  replace hf : ((f_X3_joinClasses_3 1000000 v_classOf x1 x2 x3 (0 : Int32)) : Option ((Nat → Int32))) = some out := hf
  refine lv_iconst (v := 0) hx hb dX3_joinClasses_0 (by decide) ?_
  refine lv_istore (lv' := [(4, .int (0 : Int32)), (0, .ref a_this), (1, .int x1), (2, .int x2), (3, .int x3)]) hx hb dX3_joinClasses_1 hl (by decide) rfl (fun ls hl => ?_)
  exact w_X3_joinClasses_3 C0 hK 1000000 v_classOf x1 x2 x3 (0 : Int32) hf _ _ hP hD hS ls (lv_sub hl [1, 2, 3, 4, 0] rfl)
theorem nd_X3_joinClasses : yX3_joinClasses.cls ≠ "java/lang/invoke/MethodHandle" ∧ yX3_joinClasses.cls ≠ "java/lang/invoke/VarHandle" ∧ (parseMethodDescriptor yX3_joinClasses.desc).map (fun d => d.parameters.length) = some 3 := by decide +kernel
set_option maxHeartbeats 4000000 in
set_option maxRecDepth 100000 in
theorem c_X3_joinClasses (l : Launch) (dC : Nat → ClassId) (dI : Nat → Nat → Nat) (cB cI cJ cZ : ClassId) (a_this a_classOf a_table a_targets a_rowImages : Nat) (sz : Nat) (v_count : Int32) (v_classOf : (Nat → Int32)) (x1 : Int32) (x2 : Int32) (x3 : Int32) (out : (Nat → Int32)) (hf : f_X3_joinClasses  v_classOf x1 x2 x3 = some out) : Met l yX3_joinClasses wsX3_joinClasses rm_X3_joinClasses (va_Pc [.ref a_this, .int x1, .int x2, .int x3] (fun U => U.heap.size = sz ∧ va_P (dC, dI) vwCl (ws_X3_joinClasses cB cI cJ cZ a_this a_classOf a_table a_targets a_rowImages v_count v_classOf) U.heap ∧ va_K (dC, dI) vwCl (tysG cB cI cJ cZ) U ∧ va_D (fun _ => True) (ws_X3_joinClasses cB cI cJ cZ a_this a_classOf a_table a_targets a_rowImages v_count v_classOf))) (qc_X3_joinClasses (va_A (ws_X3_joinClasses cB cI cJ cZ a_this a_classOf a_table a_targets a_rowImages v_count v_classOf) sz) dC dI cB cI cJ cZ a_this a_classOf a_table a_targets a_rowImages v_count out) 0 0 (va_A (ws_X3_joinClasses cB cI cJ cZ a_this a_classOf a_table a_targets a_rowImages v_count v_classOf) sz) := by
  refine Met.ofW (cc := cX3_joinClasses) (maxL := 5) (ret := none) (by decide) rfl ?_
  intro p e s m args below meth c s₁ B hml hv
  obtain ⟨rfl, hsz, hP, hK, hD0⟩ := hv
  subst hsz
  have hD := hD0.self (sz := s.heap.size)
  generalize hAe : va_A (ws_X3_joinClasses cB cI cJ cZ a_this a_classOf a_table a_targets a_rowImages v_count v_classOf) s.heap.size = A at hD ⊢
  have hA : ∀ q : Nat, s.heap.size ≤ q → A q := fun q h => by rw [← hAe]; exact Or.inr h
  have hl := lv_entry ([.ref a_this, .int x1, .int x2, .int x3]) (n := 5) (Nat.le_of_ble_eq_true rfl)
  rw [lg_entry_eq]
  generalize (lg_sl ([.ref a_this, .int x1, .int x2, .int x3]) ++ List.replicate (5 - (lg_sl ([.ref a_this, .int x1, .int x2, .int x3])).length) Slot.unset).toArray = ls at hl ⊢
  have hl : lv_has ls 5 [(0, .ref a_this), (1, .int x1), (2, .int x2), (3, .int x3)] := hl
  exact w_X3_joinClasses_0 ⟨B.exec, B.bytes, B.returns, hml, findClass_of_methodNamed B.named, atoms_spec (ws := wsX3_joinClasses) B.pre, B.notSynchronized, hA⟩ hK v_classOf x1 x2 x3 hf _ _ hP hD va_S.rf ls (lv_sub hl [0, 1, 2, 3] rfl)
-- X3.countClasses([JI)I: 64 instructions
theorem in_X3_countClasses_X3 : ∀ w ∈ wsX30, w ∈ wsX3_countClasses := by decide +kernel
abbrev ws_X3_countClasses (cB cI cJ cZ : ClassId) (a_this a_table a_rowImages a_classOf a_p1 a_targets a_table_due a_table_columnsOf a_table_colours a_table_rowsOf a_table_clashesOf : Nat) (v_count : Int32) (v_table_columnCount : Int32) (v_table_neededCount : Int32) (v_table_rowCount : Int32) (v_rowImages : (Nat → Int32)) (v_classOf : (Nat → Int32)) (v_p1 : (Nat → Int64)) : va_W := [(a_this, .inr (4, [.ref a_table, .ref a_targets, .ref a_rowImages, .ref a_classOf, .int v_count])), (a_table, .inr (3, [.int v_table_columnCount, .int v_table_neededCount, .ref a_table_due, .ref a_table_columnsOf, .ref a_table_colours, .ref a_table_rowsOf, .ref a_table_clashesOf, .int v_table_rowCount])), (a_rowImages, .inl (cI, 480, .inl v_rowImages)), (a_classOf, .inl (cI, 100, .inl v_classOf)), (a_p1, .inl (cJ, 100, .inr (.inl v_p1)))]
abbrev rm_X3_countClasses : Room := { frames := 1, cells := 0, slots := 0, locals := 26 }
theorem lk_X3_countClasses_f18 : Cond.fieldLink RX3 18 "LinkedCovers$Turns" "classOf" "[I" ∈ wsX3_countClasses := by decide +kernel
theorem lk_X3_countClasses_f25 : Cond.fieldLink RX3 25 "LinkedCovers$Turns" "count" "I" ∈ wsX3_countClasses := by decide +kernel
def f_X3_countClasses_108 (v_count : Int32) (v_table_rowCount : Int32) (v_rowImages : (Nat → Int32)) (v_p1 : (Nat → Int64)) (k_29 : (Nat → Int32) → Int32 → Int32 → Int32 → Option (Int32 × (Nat → Int32))) (k_41 : (Nat → Int32) → Int32 → Int32 → Int32 → Int32 → Option (Int32 × (Nat → Int32))) (v_classOf : (Nat → Int32)) (x2 : Int32) (x3 : Int32) (x4 : Int32) (x5 : Int32) : Option (Int32 × (Nat → Int32)) :=
  k_41 v_classOf x2 x3 x4 (x5 + 1)
def f_X3_countClasses_41 (v_count : Int32) (v_table_rowCount : Int32) (v_rowImages : (Nat → Int32)) (v_p1 : (Nat → Int64)) (k_29 : (Nat → Int32) → Int32 → Int32 → Int32 → Option (Int32 × (Nat → Int32))) : Nat → (Nat → Int32) → Int32 → Int32 → Int32 → Int32 → Option (Int32 × (Nat → Int32))
  | 0 => fun _ _ _ _ _ => none
  | n + 1 => fun v_classOf x2 x3 x4 x5 => if x2 ≤ x5 then
  (k_29 v_classOf x2 x3 (x4 + 1))
  else
  (if (x5 < 0 ∨ 100 ≤ Int32.toNatClampNeg x5) then none else
  (f_X3_wayImage v_table_rowCount v_rowImages x4 (v_p1 (Int32.toNatClampNeg x5))).bind (fun o_3 =>
  (f_X3_indexOf v_p1 x2 o_3.1).bind (fun o_4 =>
  if o_4.1 < 0 then
  (f_X3_countClasses_108 v_count v_table_rowCount v_rowImages v_p1 k_29 (f_X3_countClasses_41 v_count v_table_rowCount v_rowImages v_p1 k_29 n) v_classOf x2 x3 x4 x5)
  else
  (if (o_4.1 < 0 ∨ 100 ≤ Int32.toNatClampNeg o_4.1) then none else
  if (x5 < 0 ∨ 100 ≤ Int32.toNatClampNeg x5) then none else
  if (v_classOf (Int32.toNatClampNeg o_4.1)) = (v_classOf (Int32.toNatClampNeg x5)) then
  (f_X3_countClasses_108 v_count v_table_rowCount v_rowImages v_p1 k_29 (f_X3_countClasses_41 v_count v_table_rowCount v_rowImages v_p1 k_29 n) v_classOf x2 x3 x4 x5)
  else
  (if (o_4.1 < 0 ∨ 100 ≤ Int32.toNatClampNeg o_4.1) then none else
  if (x5 < 0 ∨ 100 ≤ Int32.toNatClampNeg x5) then none else
  (f_X3_joinClasses v_classOf (v_classOf (Int32.toNatClampNeg o_4.1)) (v_classOf (Int32.toNatClampNeg x5)) x2).bind (fun o_11 =>
  f_X3_countClasses_108 v_count v_table_rowCount v_rowImages v_p1 k_29 (f_X3_countClasses_41 v_count v_table_rowCount v_rowImages v_p1 k_29 n) o_11 x2 (x3 + (-1)) x4 x5))))))
def f_X3_countClasses_29 (v_count : Int32) (v_table_rowCount : Int32) (v_rowImages : (Nat → Int32)) (v_p1 : (Nat → Int64))  : Nat → (Nat → Int32) → Int32 → Int32 → Int32 → Option (Int32 × (Nat → Int32))
  | 0 => fun _ _ _ _ => none
  | n + 1 => fun v_classOf x2 x3 x4 => if v_count ≤ x4 then
  (some ((x3, v_classOf)))
  else
  (f_X3_countClasses_41 v_count v_table_rowCount v_rowImages v_p1 (f_X3_countClasses_29 v_count v_table_rowCount v_rowImages v_p1 n) 1000000 v_classOf x2 x3 x4 (0 : Int32))
def f_X3_countClasses_5 (v_count : Int32) (v_table_rowCount : Int32) (v_rowImages : (Nat → Int32)) (v_p1 : (Nat → Int64))  : Nat → (Nat → Int32) → Int32 → Int32 → Int32 → Option (Int32 × (Nat → Int32))
  | 0 => fun _ _ _ _ => none
  | n + 1 => fun v_classOf x2 x3 x4 => if x2 ≤ x4 then
  (f_X3_countClasses_29 v_count v_table_rowCount v_rowImages v_p1 1000000 v_classOf x2 x3 (0 : Int32))
  else
  (if (x4 < 0 ∨ 100 ≤ Int32.toNatClampNeg x4) then none else
  f_X3_countClasses_5 v_count v_table_rowCount v_rowImages v_p1 n (upd v_classOf (Int32.toNatClampNeg x4) x4) x2 x3 (x4 + 1))
def f_X3_countClasses (v_count : Int32) (v_table_rowCount : Int32) (v_rowImages : (Nat → Int32)) (v_p1 : (Nat → Int64))  (v_classOf : (Nat → Int32)) (x2 : Int32) : Option (Int32 × (Nat → Int32)) :=
  f_X3_countClasses_5 v_count v_table_rowCount v_rowImages v_p1 1000000 v_classOf x2 x2 (0 : Int32)
abbrev qc_X3_countClasses (A : Nat → Prop) (dC : Nat → ClassId) (dI : Nat → Nat → Nat) (cB cI cJ cZ : ClassId) (a_this a_table a_rowImages a_classOf a_p1 a_targets a_table_due a_table_columnsOf a_table_colours a_table_rowsOf a_table_clashesOf : Nat) (v_count : Int32) (v_table_columnCount : Int32) (v_table_neededCount : Int32) (v_table_rowCount : Int32) (v_rowImages : (Nat → Int32)) (v_p1 : (Nat → Int64)) (out : Int32 × (Nat → Int32)) : Array Value → State → Outcome → State → Prop := va_Qi (fun (r : Int32) (u : (Nat → Int32)) => r = out.1 ∧ u = out.2) (fun (u : (Nat → Int32)) (t : State) => va_P (dC, dI) vwCl (ws_X3_countClasses cB cI cJ cZ a_this a_table a_rowImages a_classOf a_p1 a_targets a_table_due a_table_columnsOf a_table_colours a_table_rowsOf a_table_clashesOf v_count v_table_columnCount v_table_neededCount v_table_rowCount v_rowImages u v_p1) t.heap ∧ va_K (dC, dI) vwCl (tysG cB cI cJ cZ) t ∧ va_D A (ws_X3_countClasses cB cI cJ cZ a_this a_table a_rowImages a_classOf a_p1 a_targets a_table_due a_table_columnsOf a_table_colours a_table_rowsOf a_table_clashesOf v_count v_table_columnCount v_table_neededCount v_table_rowCount v_rowImages u v_p1)) A
abbrev g_X3_countClasses_108 (p : Program) (l : Launch) (e : Env) (s : State) (m : MethodId) (args : Array Value) (below : List Frame) (meth : Method) (c : Code) (A : Nat → Prop) (dC : Nat → ClassId) (dI : Nat → Nat → Nat) (cB cI cJ cZ : ClassId) (a_this a_table a_rowImages a_classOf a_p1 a_targets a_table_due a_table_columnsOf a_table_colours a_table_rowsOf a_table_clashesOf : Nat) (v_count : Int32) (v_table_columnCount : Int32) (v_table_neededCount : Int32) (v_table_rowCount : Int32) (v_rowImages : (Nat → Int32)) (v_p1 : (Nat → Int64)) (out : Int32 × (Nat → Int32)) (k : (Nat → Int32) → Int32 → Int32 → Int32 → Int32 → Option (Int32 × (Nat → Int32))) : Prop := ∀ (v_classOf : (Nat → Int32)) (x2 : Int32) (x3 : Int32) (x4 : Int32) (x5 : Int32), k v_classOf x2 x3 x4 x5 = some out → ∀ (H : Heap) (locs : List Loc), va_P (dC, dI) vwCl (ws_X3_countClasses cB cI cJ cZ a_this a_table a_rowImages a_classOf a_p1 a_targets a_table_due a_table_columnsOf a_table_colours a_table_rowsOf a_table_clashesOf v_count v_table_columnCount v_table_neededCount v_table_rowCount v_rowImages v_classOf v_p1) H → va_D A (ws_X3_countClasses cB cI cJ cZ a_this a_table a_rowImages a_classOf a_p1 a_targets a_table_due a_table_columnsOf a_table_colours a_table_rowsOf a_table_clashesOf v_count v_table_columnCount v_table_neededCount v_table_rowCount v_rowImages v_classOf v_p1) → va_S A s.heap H locs → ∀ (ls : Array Slot), lv_has ls 7 [(0, .ref a_this), (1, .ref a_p1), (2, .int x2), (3, .int x3), (4, .int x4), (5, .int x5)] → W p l e (headSpec wsX3_countClasses rm_X3_countClasses).room s m args below meth c H locs 0 0 (MQ below (qc_X3_countClasses A dC dI cB cI cJ cZ a_this a_table a_rowImages a_classOf a_p1 a_targets a_table_due a_table_columnsOf a_table_colours a_table_rowsOf a_table_clashesOf v_count v_table_columnCount v_table_neededCount v_table_rowCount v_rowImages v_p1 out) args s 0 0 A) (F0 m 108 ls [])
abbrev g_X3_countClasses_41 (p : Program) (l : Launch) (e : Env) (s : State) (m : MethodId) (args : Array Value) (below : List Frame) (meth : Method) (c : Code) (A : Nat → Prop) (dC : Nat → ClassId) (dI : Nat → Nat → Nat) (cB cI cJ cZ : ClassId) (a_this a_table a_rowImages a_classOf a_p1 a_targets a_table_due a_table_columnsOf a_table_colours a_table_rowsOf a_table_clashesOf : Nat) (v_count : Int32) (v_table_columnCount : Int32) (v_table_neededCount : Int32) (v_table_rowCount : Int32) (v_rowImages : (Nat → Int32)) (v_p1 : (Nat → Int64)) (out : Int32 × (Nat → Int32)) (k : (Nat → Int32) → Int32 → Int32 → Int32 → Int32 → Option (Int32 × (Nat → Int32))) : Prop := ∀ (v_classOf : (Nat → Int32)) (x2 : Int32) (x3 : Int32) (x4 : Int32) (x5 : Int32), k v_classOf x2 x3 x4 x5 = some out → ∀ (H : Heap) (locs : List Loc), va_P (dC, dI) vwCl (ws_X3_countClasses cB cI cJ cZ a_this a_table a_rowImages a_classOf a_p1 a_targets a_table_due a_table_columnsOf a_table_colours a_table_rowsOf a_table_clashesOf v_count v_table_columnCount v_table_neededCount v_table_rowCount v_rowImages v_classOf v_p1) H → va_D A (ws_X3_countClasses cB cI cJ cZ a_this a_table a_rowImages a_classOf a_p1 a_targets a_table_due a_table_columnsOf a_table_colours a_table_rowsOf a_table_clashesOf v_count v_table_columnCount v_table_neededCount v_table_rowCount v_rowImages v_classOf v_p1) → va_S A s.heap H locs → ∀ (ls : Array Slot), lv_has ls 7 [(0, .ref a_this), (1, .ref a_p1), (2, .int x2), (3, .int x3), (4, .int x4), (5, .int x5)] → W p l e (headSpec wsX3_countClasses rm_X3_countClasses).room s m args below meth c H locs 0 0 (MQ below (qc_X3_countClasses A dC dI cB cI cJ cZ a_this a_table a_rowImages a_classOf a_p1 a_targets a_table_due a_table_columnsOf a_table_colours a_table_rowsOf a_table_clashesOf v_count v_table_columnCount v_table_neededCount v_table_rowCount v_rowImages v_p1 out) args s 0 0 A) (F0 m 41 ls [])
abbrev g_X3_countClasses_29 (p : Program) (l : Launch) (e : Env) (s : State) (m : MethodId) (args : Array Value) (below : List Frame) (meth : Method) (c : Code) (A : Nat → Prop) (dC : Nat → ClassId) (dI : Nat → Nat → Nat) (cB cI cJ cZ : ClassId) (a_this a_table a_rowImages a_classOf a_p1 a_targets a_table_due a_table_columnsOf a_table_colours a_table_rowsOf a_table_clashesOf : Nat) (v_count : Int32) (v_table_columnCount : Int32) (v_table_neededCount : Int32) (v_table_rowCount : Int32) (v_rowImages : (Nat → Int32)) (v_p1 : (Nat → Int64)) (out : Int32 × (Nat → Int32)) (k : (Nat → Int32) → Int32 → Int32 → Int32 → Option (Int32 × (Nat → Int32))) : Prop := ∀ (v_classOf : (Nat → Int32)) (x2 : Int32) (x3 : Int32) (x4 : Int32), k v_classOf x2 x3 x4 = some out → ∀ (H : Heap) (locs : List Loc), va_P (dC, dI) vwCl (ws_X3_countClasses cB cI cJ cZ a_this a_table a_rowImages a_classOf a_p1 a_targets a_table_due a_table_columnsOf a_table_colours a_table_rowsOf a_table_clashesOf v_count v_table_columnCount v_table_neededCount v_table_rowCount v_rowImages v_classOf v_p1) H → va_D A (ws_X3_countClasses cB cI cJ cZ a_this a_table a_rowImages a_classOf a_p1 a_targets a_table_due a_table_columnsOf a_table_colours a_table_rowsOf a_table_clashesOf v_count v_table_columnCount v_table_neededCount v_table_rowCount v_rowImages v_classOf v_p1) → va_S A s.heap H locs → ∀ (ls : Array Slot), lv_has ls 7 [(0, .ref a_this), (1, .ref a_p1), (2, .int x2), (3, .int x3), (4, .int x4)] → W p l e (headSpec wsX3_countClasses rm_X3_countClasses).room s m args below meth c H locs 0 0 (MQ below (qc_X3_countClasses A dC dI cB cI cJ cZ a_this a_table a_rowImages a_classOf a_p1 a_targets a_table_due a_table_columnsOf a_table_colours a_table_rowsOf a_table_clashesOf v_count v_table_columnCount v_table_neededCount v_table_rowCount v_rowImages v_p1 out) args s 0 0 A) (F0 m 29 ls [])
abbrev g_X3_countClasses_5 (p : Program) (l : Launch) (e : Env) (s : State) (m : MethodId) (args : Array Value) (below : List Frame) (meth : Method) (c : Code) (A : Nat → Prop) (dC : Nat → ClassId) (dI : Nat → Nat → Nat) (cB cI cJ cZ : ClassId) (a_this a_table a_rowImages a_classOf a_p1 a_targets a_table_due a_table_columnsOf a_table_colours a_table_rowsOf a_table_clashesOf : Nat) (v_count : Int32) (v_table_columnCount : Int32) (v_table_neededCount : Int32) (v_table_rowCount : Int32) (v_rowImages : (Nat → Int32)) (v_p1 : (Nat → Int64)) (out : Int32 × (Nat → Int32)) (k : (Nat → Int32) → Int32 → Int32 → Int32 → Option (Int32 × (Nat → Int32))) : Prop := ∀ (v_classOf : (Nat → Int32)) (x2 : Int32) (x3 : Int32) (x4 : Int32), k v_classOf x2 x3 x4 = some out → ∀ (H : Heap) (locs : List Loc), va_P (dC, dI) vwCl (ws_X3_countClasses cB cI cJ cZ a_this a_table a_rowImages a_classOf a_p1 a_targets a_table_due a_table_columnsOf a_table_colours a_table_rowsOf a_table_clashesOf v_count v_table_columnCount v_table_neededCount v_table_rowCount v_rowImages v_classOf v_p1) H → va_D A (ws_X3_countClasses cB cI cJ cZ a_this a_table a_rowImages a_classOf a_p1 a_targets a_table_due a_table_columnsOf a_table_colours a_table_rowsOf a_table_clashesOf v_count v_table_columnCount v_table_neededCount v_table_rowCount v_rowImages v_classOf v_p1) → va_S A s.heap H locs → ∀ (ls : Array Slot), lv_has ls 7 [(0, .ref a_this), (1, .ref a_p1), (2, .int x2), (3, .int x3), (4, .int x4)] → W p l e (headSpec wsX3_countClasses rm_X3_countClasses).room s m args below meth c H locs 0 0 (MQ below (qc_X3_countClasses A dC dI cB cI cJ cZ a_this a_table a_rowImages a_classOf a_p1 a_targets a_table_due a_table_columnsOf a_table_colours a_table_rowsOf a_table_clashesOf v_count v_table_columnCount v_table_neededCount v_table_rowCount v_rowImages v_p1 out) args s 0 0 A) (F0 m 5 ls [])
abbrev g_X3_countClasses_0 (p : Program) (l : Launch) (e : Env) (s : State) (m : MethodId) (args : Array Value) (below : List Frame) (meth : Method) (c : Code) (A : Nat → Prop) (dC : Nat → ClassId) (dI : Nat → Nat → Nat) (cB cI cJ cZ : ClassId) (a_this a_table a_rowImages a_classOf a_p1 a_targets a_table_due a_table_columnsOf a_table_colours a_table_rowsOf a_table_clashesOf : Nat) (v_count : Int32) (v_table_columnCount : Int32) (v_table_neededCount : Int32) (v_table_rowCount : Int32) (v_rowImages : (Nat → Int32)) (v_p1 : (Nat → Int64)) (out : Int32 × (Nat → Int32)) (k : (Nat → Int32) → Int32 → Option (Int32 × (Nat → Int32))) : Prop := ∀ (v_classOf : (Nat → Int32)) (x2 : Int32), k v_classOf x2 = some out → ∀ (H : Heap) (locs : List Loc), va_P (dC, dI) vwCl (ws_X3_countClasses cB cI cJ cZ a_this a_table a_rowImages a_classOf a_p1 a_targets a_table_due a_table_columnsOf a_table_colours a_table_rowsOf a_table_clashesOf v_count v_table_columnCount v_table_neededCount v_table_rowCount v_rowImages v_classOf v_p1) H → va_D A (ws_X3_countClasses cB cI cJ cZ a_this a_table a_rowImages a_classOf a_p1 a_targets a_table_due a_table_columnsOf a_table_colours a_table_rowsOf a_table_clashesOf v_count v_table_columnCount v_table_neededCount v_table_rowCount v_rowImages v_classOf v_p1) → va_S A s.heap H locs → ∀ (ls : Array Slot), lv_has ls 7 [(0, .ref a_this), (1, .ref a_p1), (2, .int x2)] → W p l e (headSpec wsX3_countClasses rm_X3_countClasses).room s m args below meth c H locs 0 0 (MQ below (qc_X3_countClasses A dC dI cB cI cJ cZ a_this a_table a_rowImages a_classOf a_p1 a_targets a_table_due a_table_columnsOf a_table_colours a_table_rowsOf a_table_clashesOf v_count v_table_columnCount v_table_neededCount v_table_rowCount v_rowImages v_p1 out) args s 0 0 A) (F0 m 0 ls [])
set_option maxHeartbeats 4000000 in
set_option maxRecDepth 100000 in
theorem w_X3_countClasses_108 {p : Program} {l : Launch} {e : Env} {s : State} {m : MethodId} {args : Array Value} {below : List Frame} {meth : Method} {c : Code} {A : Nat → Prop} {dC : Nat → ClassId} {dI : Nat → Nat → Nat} {cB cI cJ cZ : ClassId} {a_this a_table a_rowImages a_classOf a_p1 a_targets a_table_due a_table_columnsOf a_table_colours a_table_rowsOf a_table_clashesOf : Nat} {v_count : Int32} {v_table_columnCount : Int32} {v_table_neededCount : Int32} {v_table_rowCount : Int32} {v_rowImages : (Nat → Int32)} {v_p1 : (Nat → Int64)} {out : Int32 × (Nat → Int32)} (C0 : Cx RX3 cX3_countClasses (some .int) 7 wsX3_countClasses p s m args meth c A) (hK : va_K (dC, dI) vwCl (tysG cB cI cJ cZ) s) {k_29 : (Nat → Int32) → Int32 → Int32 → Int32 → Option (Int32 × (Nat → Int32))} (hk_29 : g_X3_countClasses_29 p l e s m args below meth c A dC dI cB cI cJ cZ a_this a_table a_rowImages a_classOf a_p1 a_targets a_table_due a_table_columnsOf a_table_colours a_table_rowsOf a_table_clashesOf v_count v_table_columnCount v_table_neededCount v_table_rowCount v_rowImages v_p1 out k_29) {k_41 : (Nat → Int32) → Int32 → Int32 → Int32 → Int32 → Option (Int32 × (Nat → Int32))} (hk_41 : g_X3_countClasses_41 p l e s m args below meth c A dC dI cB cI cJ cZ a_this a_table a_rowImages a_classOf a_p1 a_targets a_table_due a_table_columnsOf a_table_colours a_table_rowsOf a_table_clashesOf v_count v_table_columnCount v_table_neededCount v_table_rowCount v_rowImages v_p1 out k_41) : g_X3_countClasses_108 p l e s m args below meth c A dC dI cB cI cJ cZ a_this a_table a_rowImages a_classOf a_p1 a_targets a_table_due a_table_columnsOf a_table_colours a_table_rowsOf a_table_clashesOf v_count v_table_columnCount v_table_neededCount v_table_rowCount v_rowImages v_p1 out (f_X3_countClasses_108 v_count v_table_rowCount v_rowImages v_p1 k_29 k_41) := by
  obtain ⟨hx, hb, hr, hml, hown, hts, hlocks, hA⟩ := id C0
  intro v_classOf x2 x3 x4 x5 hf H locs hP hD hS ls hl
  replace hf : ((k_41 v_classOf x2 x3 x4 (x5 + 1)) : Option (Int32 × (Nat → Int32))) = some out := hf
  refine lv_iinc (v := (x5 + 1)) (lv' := [(5, .int (x5 + 1)), (0, .ref a_this), (1, .ref a_p1), (2, .int x2), (3, .int x3), (4, .int x4)]) hx hb dX3_countClasses_108 hl (k := 5) rfl rfl (by decide) rfl (fun ls hl => ?_)
  refine lv_goto (tgt := 41) hx hb dX3_countClasses_111 (by decide) ?_
  exact hk_41 v_classOf x2 x3 x4 (x5 + 1) hf _ _ hP hD hS ls (lv_sub hl [1, 2, 3, 4, 5, 0] rfl)
set_option maxHeartbeats 4000000 in
set_option maxRecDepth 100000 in
theorem w_X3_countClasses_41 {p : Program} {l : Launch} {e : Env} {s : State} {m : MethodId} {args : Array Value} {below : List Frame} {meth : Method} {c : Code} {A : Nat → Prop} {dC : Nat → ClassId} {dI : Nat → Nat → Nat} {cB cI cJ cZ : ClassId} {a_this a_table a_rowImages a_classOf a_p1 a_targets a_table_due a_table_columnsOf a_table_colours a_table_rowsOf a_table_clashesOf : Nat} {v_count : Int32} {v_table_columnCount : Int32} {v_table_neededCount : Int32} {v_table_rowCount : Int32} {v_rowImages : (Nat → Int32)} {v_p1 : (Nat → Int64)} {out : Int32 × (Nat → Int32)} (C0 : Cx RX3 cX3_countClasses (some .int) 7 wsX3_countClasses p s m args meth c A) (hK : va_K (dC, dI) vwCl (tysG cB cI cJ cZ) s) {k_29 : (Nat → Int32) → Int32 → Int32 → Int32 → Option (Int32 × (Nat → Int32))} (hk_29 : g_X3_countClasses_29 p l e s m args below meth c A dC dI cB cI cJ cZ a_this a_table a_rowImages a_classOf a_p1 a_targets a_table_due a_table_columnsOf a_table_colours a_table_rowsOf a_table_clashesOf v_count v_table_columnCount v_table_neededCount v_table_rowCount v_rowImages v_p1 out k_29) : ∀ n : Nat, g_X3_countClasses_41 p l e s m args below meth c A dC dI cB cI cJ cZ a_this a_table a_rowImages a_classOf a_p1 a_targets a_table_due a_table_columnsOf a_table_colours a_table_rowsOf a_table_clashesOf v_count v_table_columnCount v_table_neededCount v_table_rowCount v_rowImages v_p1 out (f_X3_countClasses_41 v_count v_table_rowCount v_rowImages v_p1 k_29 n) := by
  obtain ⟨hx, hb, hr, hml, hown, hts, hlocks, hA⟩ := id C0
  intro n
  induction n with
  | zero =>
    intro v_classOf x2 x3 x4 x5 hf H locs hP hD hS ls hl
    exact nomatch (show (none : Option (Int32 × (Nat → Int32))) = some out from hf)
  | succ n ih =>
    intro v_classOf x2 x3 x4 x5 hf H locs hP hD hS ls hl
    replace hf : ((if x2 ≤ x5 then
  (k_29 v_classOf x2 x3 (x4 + 1))
  else
  (if (x5 < 0 ∨ 100 ≤ Int32.toNatClampNeg x5) then none else
  (f_X3_wayImage v_table_rowCount v_rowImages x4 (v_p1 (Int32.toNatClampNeg x5))).bind (fun o_3 =>
  (f_X3_indexOf v_p1 x2 o_3.1).bind (fun o_4 =>
  if o_4.1 < 0 then
  (f_X3_countClasses_108 v_count v_table_rowCount v_rowImages v_p1 k_29 (f_X3_countClasses_41 v_count v_table_rowCount v_rowImages v_p1 k_29 n) v_classOf x2 x3 x4 x5)
  else
  (if (o_4.1 < 0 ∨ 100 ≤ Int32.toNatClampNeg o_4.1) then none else
  if (x5 < 0 ∨ 100 ≤ Int32.toNatClampNeg x5) then none else
  if (v_classOf (Int32.toNatClampNeg o_4.1)) = (v_classOf (Int32.toNatClampNeg x5)) then
  (f_X3_countClasses_108 v_count v_table_rowCount v_rowImages v_p1 k_29 (f_X3_countClasses_41 v_count v_table_rowCount v_rowImages v_p1 k_29 n) v_classOf x2 x3 x4 x5)
  else
  (if (o_4.1 < 0 ∨ 100 ≤ Int32.toNatClampNeg o_4.1) then none else
  if (x5 < 0 ∨ 100 ≤ Int32.toNatClampNeg x5) then none else
  (f_X3_joinClasses v_classOf (v_classOf (Int32.toNatClampNeg o_4.1)) (v_classOf (Int32.toNatClampNeg x5)) x2).bind (fun o_11 =>
  f_X3_countClasses_108 v_count v_table_rowCount v_rowImages v_p1 k_29 (f_X3_countClasses_41 v_count v_table_rowCount v_rowImages v_p1 k_29 n) o_11 x2 (x3 + (-1)) x4 x5))))))) : Option (Int32 × (Nat → Int32))) = some out := hf
    refine lv_iload hx hb dX3_countClasses_41 (lv_at hl 5 rfl) ?_
    refine lv_iload_n hx hb dX3_countClasses_43 rfl (lv_at hl 2 rfl) ?_
    refine lv_icmp_ge (tgt := 114) hx hb dX3_countClasses_44 (by decide) (fun c_1 => ?_) (fun c_1 => ?_)
    · replace hf := (if_pos c_1).symm.trans hf
      refine lv_iinc (v := (x4 + 1)) (lv' := [(4, .int (x4 + 1)), (0, .ref a_this), (1, .ref a_p1), (2, .int x2), (3, .int x3), (5, .int x5)]) hx hb dX3_countClasses_114 hl (k := 4) rfl rfl (by decide) rfl (fun ls hl => ?_)
      refine lv_goto (tgt := 29) hx hb dX3_countClasses_117 (by decide) ?_
      exact hk_29 v_classOf x2 x3 (x4 + 1) hf _ _ hP hD hS ls (lv_sub hl [1, 2, 3, 4, 0] rfl)
    · replace hf := (if_neg c_1).symm.trans hf
      refine lv_aload_n hx hb dX3_countClasses_47 rfl (lv_at hl 1 rfl) ?_
      refine lv_iload_n hx hb dX3_countClasses_48 rfl (lv_at hl 2 rfl) ?_
      refine lv_aload_n hx hb dX3_countClasses_49 rfl (lv_at hl 0 rfl) ?_
      refine lv_iload hx hb dX3_countClasses_50 (lv_at hl 4 rfl) ?_
      refine lv_aload_n hx hb dX3_countClasses_52 rfl (lv_at hl 1 rfl) ?_
      refine lv_iload hx hb dX3_countClasses_53 (lv_at hl 5 rfl) ?_
      obtain ⟨h_2, hf⟩ := gd_ck hf
      refine va_lald hx hb hK hP 4 2 rfl rfl h_2 dX3_countClasses_55 ?_
      obtain ⟨o_3, ho_3, hf⟩ := gd_bd hf
      have hPc := hP.sub (ws' := ws_X3_wayImage cB cI cJ cZ a_this a_table a_rowImages a_targets a_classOf a_table_due a_table_columnsOf a_table_colours a_table_rowsOf a_table_clashesOf v_count v_table_columnCount v_table_neededCount v_table_rowCount v_rowImages) [0, 1, 2] rfl
      have hDc := hD.sub (ws' := ws_X3_wayImage cB cI cJ cZ a_this a_table a_rowImages a_targets a_classOf a_table_due a_table_columnsOf a_table_colours a_table_rowsOf a_table_clashesOf v_count v_table_columnCount v_table_neededCount v_table_rowCount v_rowImages) [0, 1, 2] (by decide) rfl
      have hFc := va_free (wc := ws_X3_wayImage cB cI cJ cZ a_this a_table a_rowImages a_targets a_classOf a_table_due a_table_columnsOf a_table_colours a_table_rowsOf a_table_clashesOf v_count v_table_columnCount v_table_neededCount v_table_rowCount v_rowImages) hD hS hA [0, 1, 2] rfl
      refine va_calll (va_runV (As := [.int x4, .long (v_p1 (Int32.toNatClampNeg x5))]) (rest := [.int x2, .ref a_p1]) ⟨hx, hb, hml, hown, hts⟩ (c_X3_wayImage l dC dI cB cI cJ cZ a_this a_table a_rowImages a_targets a_classOf a_table_due a_table_columnsOf a_table_colours a_table_rowsOf a_table_clashesOf H.size v_count v_table_columnCount v_table_neededCount v_table_rowCount v_rowImages x4 (v_p1 (Int32.toNatClampNeg x5)) o_3 ho_3) (cwV 2 hts gX3_countClasses_X3_wayImage rfl rfl rfl ⟨rfl, nd_X3_wayImage⟩ ⟨Nat.le_of_ble_eq_true rfl, Nat.le_of_ble_eq_true rfl⟩) ⟨fun a U g mk q => by obtain ⟨q0, q1, qP, qK, qD⟩ := q; exact ⟨q0, q1, qP, va_K.moved (u := U) (U := U.calling g mk a) (Vm.Alike.refl U.vm) qK, qD⟩, va_recv hK hPc (ci := 4) (q0 := 0) rfl rfl, fun U hU hW => ⟨rfl, by rw [hU], by rw [hU]; exact hPc, va_K.moved hW.alike hK, hDc.weaken (fun _ _ _ _ => trivial)⟩⟩ rfl rfl hl.1 rfl (lv_room (Nat.le_of_ble_eq_true rfl)) dX3_countClasses_56 ⟨Nat.le_of_ble_eq_true rfl, Nat.le_of_ble_eq_true rfl⟩) hS (fun q _ h => hFc q h) hFc (fun r_3 u_3 t H1 locs ht hvm hw hB hz1 hk1 hS => ?_)
      obtain ⟨rfl, rfl⟩ := hw
      obtain ⟨hP1, hK1, hD1⟩ := hB
      rw [ht] at hP1
      obtain ⟨hP, hD⟩ := va_join (wr := [(a_classOf, .inl (cI, 100, .inl v_classOf)), (a_p1, .inl (cJ, 100, .inr (.inl v_p1)))]) (w1 := ws_X3_wayImage cB cI cJ cZ a_this a_table a_rowImages a_targets a_classOf a_table_due a_table_columnsOf a_table_colours a_table_rowsOf a_table_clashesOf v_count v_table_columnCount v_table_neededCount v_table_rowCount v_rowImages) hP hD [0, 1, 2] [3, 4] rfl rfl (by decide) (by decide) hk1 hFc hP1 hD1
      generalize H1 = H at hP hS ⊢
      have hP : va_P (dC, dI) vwCl (ws_X3_countClasses cB cI cJ cZ a_this a_table a_rowImages a_classOf a_p1 a_targets a_table_due a_table_columnsOf a_table_colours a_table_rowsOf a_table_clashesOf v_count v_table_columnCount v_table_neededCount v_table_rowCount v_rowImages v_classOf v_p1) H := hP.sub [2, 3, 4, 0, 1] rfl
      have hD : va_D A (ws_X3_countClasses cB cI cJ cZ a_this a_table a_rowImages a_classOf a_p1 a_targets a_table_due a_table_columnsOf a_table_colours a_table_rowsOf a_table_clashesOf v_count v_table_columnCount v_table_neededCount v_table_rowCount v_rowImages v_classOf v_p1) := hD.sub [2, 3, 4, 0, 1] (by decide) rfl
      obtain ⟨o_4, ho_4, hf⟩ := gd_bd hf
      have hPc := hP.sub (ws' := ws_X3_indexOf cB cI cJ cZ a_p1 v_p1) [4] rfl
      have hDc := hD.sub (ws' := ws_X3_indexOf cB cI cJ cZ a_p1 v_p1) [4] (by decide) rfl
      have hFc := va_free (wc := ws_X3_indexOf cB cI cJ cZ a_p1 v_p1) hD hS hA [4] rfl
      refine va_calli (va_runS (As := [.ref a_p1, .int x2, .long o_3.1]) (rest := []) ⟨hx, hb, hml, hown, hts⟩ (c_X3_indexOf l dC dI cB cI cJ cZ a_p1 H.size v_p1 x2 o_3.1 o_4 ho_4) (va_cwS 3 hts gX3_countClasses_X3_indexOf rfl rfl rfl nd_X3_indexOf ⟨Nat.le_of_ble_eq_true rfl, Nat.le_of_ble_eq_true rfl⟩) ⟨fun a U g mk q => by obtain ⟨q0, q1, qP, qK, qD⟩ := q; exact ⟨q0, q1, qP, va_K.moved (u := U) (U := U.calling g mk a) (Vm.Alike.refl U.vm) qK, qD⟩, fun U hU hW => ⟨rfl, by rw [hU], by rw [hU]; exact hPc, va_K.moved hW.alike hK, hDc.weaken (fun _ _ _ _ => trivial)⟩⟩ rfl rfl hl.1 rfl (lv_room (Nat.le_of_ble_eq_true rfl)) dX3_countClasses_59 ⟨Nat.le_of_ble_eq_true rfl, Nat.le_of_ble_eq_true rfl⟩) hS (fun q _ h => hFc q h) hFc (fun r_4 u_4 t H1 locs ht hvm hw hB hz1 hk1 hS => ?_)
      obtain ⟨rfl, rfl⟩ := hw
      obtain ⟨hP1, hK1, hD1⟩ := hB
      rw [ht] at hP1
      obtain ⟨hP, hD⟩ := va_join (wr := [(a_this, .inr (4, [.ref a_table, .ref a_targets, .ref a_rowImages, .ref a_classOf, .int v_count])), (a_table, .inr (3, [.int v_table_columnCount, .int v_table_neededCount, .ref a_table_due, .ref a_table_columnsOf, .ref a_table_colours, .ref a_table_rowsOf, .ref a_table_clashesOf, .int v_table_rowCount])), (a_rowImages, .inl (cI, 480, .inl v_rowImages)), (a_classOf, .inl (cI, 100, .inl v_classOf))]) (w1 := ws_X3_indexOf cB cI cJ cZ a_p1 v_p1) hP hD [4] [0, 1, 2, 3] rfl rfl (by decide) (by decide) hk1 hFc hP1 hD1
      generalize H1 = H at hP hS ⊢
      have hP : va_P (dC, dI) vwCl (ws_X3_countClasses cB cI cJ cZ a_this a_table a_rowImages a_classOf a_p1 a_targets a_table_due a_table_columnsOf a_table_colours a_table_rowsOf a_table_clashesOf v_count v_table_columnCount v_table_neededCount v_table_rowCount v_rowImages v_classOf v_p1) H := hP.sub [0, 1, 2, 3, 4] rfl
      have hD : va_D A (ws_X3_countClasses cB cI cJ cZ a_this a_table a_rowImages a_classOf a_p1 a_targets a_table_due a_table_columnsOf a_table_colours a_table_rowsOf a_table_clashesOf v_count v_table_columnCount v_table_neededCount v_table_rowCount v_rowImages v_classOf v_p1) := hD.sub [0, 1, 2, 3, 4] (by decide) rfl
      refine lv_istore (lv' := [(6, .int o_4.1), (0, .ref a_this), (1, .ref a_p1), (2, .int x2), (3, .int x3), (4, .int x4), (5, .int x5)]) hx hb dX3_countClasses_62 hl (by decide) rfl (fun ls hl => ?_)
      refine lv_iload hx hb dX3_countClasses_64 (lv_at hl 0 rfl) ?_
      refine lv_if_lt (tgt := 108) hx hb dX3_countClasses_66 (by decide) (fun c_5 => ?_) (fun c_5 => ?_)
      · replace hf := (if_pos c_5).symm.trans hf
        exact w_X3_countClasses_108 C0 hK hk_29 ih v_classOf x2 x3 x4 x5 hf _ _ hP hD hS ls (lv_sub hl [1, 2, 3, 4, 5, 6] rfl)
      · replace hf := (if_neg c_5).symm.trans hf
        refine lv_aload_n hx hb dX3_countClasses_69 rfl (lv_at hl 1 rfl) ?_
        refine va_get (D := (dC, dI)) (ci := 4) (v := .ref a_classOf) (C := RX3) (T := TX3) (N := 5) hx hb hts in_X3_countClasses_X3 hown hK hP 0 rfl rfl 3 (by decide) (hts (.fieldLink RX3 18 "LinkedCovers$Turns" "classOf" "[I") lk_X3_countClasses_f18) (fun _ h9 => h9) rfl dX3_countClasses_70 ?_
        refine lv_iload hx hb dX3_countClasses_73 (lv_at hl 0 rfl) ?_
        obtain ⟨h_6, hf⟩ := gd_ck hf
        refine va_iald hx hb hK hP 3 1 rfl rfl h_6 dX3_countClasses_75 ?_
        refine lv_aload_n hx hb dX3_countClasses_76 rfl (lv_at hl 1 rfl) ?_
        refine va_get (D := (dC, dI)) (ci := 4) (v := .ref a_classOf) (C := RX3) (T := TX3) (N := 5) hx hb hts in_X3_countClasses_X3 hown hK hP 0 rfl rfl 3 (by decide) (hts (.fieldLink RX3 18 "LinkedCovers$Turns" "classOf" "[I") lk_X3_countClasses_f18) (fun _ h9 => h9) rfl dX3_countClasses_77 ?_
        refine lv_iload hx hb dX3_countClasses_80 (lv_at hl 6 rfl) ?_
        obtain ⟨h_7, hf⟩ := gd_ck hf
        refine va_iald hx hb hK hP 3 1 rfl rfl h_7 dX3_countClasses_82 ?_
        refine lv_icmp_eq (tgt := 108) hx hb dX3_countClasses_83 (by decide) (fun c_8 => ?_) (fun c_8 => ?_)
        · replace hf := (if_pos c_8).symm.trans hf
          exact w_X3_countClasses_108 C0 hK hk_29 ih v_classOf x2 x3 x4 x5 hf _ _ hP hD hS ls (lv_sub hl [1, 2, 3, 4, 5, 6] rfl)
        · replace hf := (if_neg c_8).symm.trans hf
          refine lv_aload_n hx hb dX3_countClasses_86 rfl (lv_at hl 1 rfl) ?_
          refine lv_aload_n hx hb dX3_countClasses_87 rfl (lv_at hl 1 rfl) ?_
          refine va_get (D := (dC, dI)) (ci := 4) (v := .ref a_classOf) (C := RX3) (T := TX3) (N := 5) hx hb hts in_X3_countClasses_X3 hown hK hP 0 rfl rfl 3 (by decide) (hts (.fieldLink RX3 18 "LinkedCovers$Turns" "classOf" "[I") lk_X3_countClasses_f18) (fun _ h9 => h9) rfl dX3_countClasses_88 ?_
          refine lv_iload hx hb dX3_countClasses_91 (lv_at hl 0 rfl) ?_
          obtain ⟨h_9, hf⟩ := gd_ck hf
          refine va_iald hx hb hK hP 3 1 rfl rfl h_9 dX3_countClasses_93 ?_
          refine lv_aload_n hx hb dX3_countClasses_94 rfl (lv_at hl 1 rfl) ?_
          refine va_get (D := (dC, dI)) (ci := 4) (v := .ref a_classOf) (C := RX3) (T := TX3) (N := 5) hx hb hts in_X3_countClasses_X3 hown hK hP 0 rfl rfl 3 (by decide) (hts (.fieldLink RX3 18 "LinkedCovers$Turns" "classOf" "[I") lk_X3_countClasses_f18) (fun _ h9 => h9) rfl dX3_countClasses_95 ?_
          refine lv_iload hx hb dX3_countClasses_98 (lv_at hl 6 rfl) ?_
          obtain ⟨h_10, hf⟩ := gd_ck hf
          refine va_iald hx hb hK hP 3 1 rfl rfl h_10 dX3_countClasses_100 ?_
          refine lv_iload_n hx hb dX3_countClasses_101 rfl (lv_at hl 3 rfl) ?_
          obtain ⟨o_11, ho_11, hf⟩ := gd_bd hf
          have hPc := hP.sub (ws' := ws_X3_joinClasses cB cI cJ cZ a_this a_classOf a_table a_targets a_rowImages v_count v_classOf) [0, 3] rfl
          have hDc := hD.sub (ws' := ws_X3_joinClasses cB cI cJ cZ a_this a_classOf a_table a_targets a_rowImages v_count v_classOf) [0, 3] (by decide) rfl
          have hFc := va_free (wc := ws_X3_joinClasses cB cI cJ cZ a_this a_classOf a_table a_targets a_rowImages v_count v_classOf) hD hS hA [0, 3] rfl
          refine va_callv (va_runV (As := [.int (v_classOf (Int32.toNatClampNeg o_4.1)), .int (v_classOf (Int32.toNatClampNeg x5)), .int x2]) (rest := []) ⟨hx, hb, hml, hown, hts⟩ (c_X3_joinClasses l dC dI cB cI cJ cZ a_this a_classOf a_table a_targets a_rowImages H.size v_count v_classOf (v_classOf (Int32.toNatClampNeg o_4.1)) (v_classOf (Int32.toNatClampNeg x5)) x2 o_11 ho_11) (cwV 3 hts gX3_countClasses_X3_joinClasses rfl rfl rfl ⟨rfl, nd_X3_joinClasses⟩ ⟨Nat.le_of_ble_eq_true rfl, Nat.le_of_ble_eq_true rfl⟩) ⟨fun a U g mk q => by obtain ⟨q0, q1, qP, qK, qD⟩ := q; exact ⟨q0, q1, qP, va_K.moved (u := U) (U := U.calling g mk a) (Vm.Alike.refl U.vm) qK, qD⟩, va_recv hK hPc (ci := 4) (q0 := 0) rfl rfl, fun U hU hW => ⟨rfl, by rw [hU], by rw [hU]; exact hPc, va_K.moved hW.alike hK, hDc.weaken (fun _ _ _ _ => trivial)⟩⟩ rfl rfl hl.1 rfl (lv_room (Nat.le_of_ble_eq_true rfl)) dX3_countClasses_102 ⟨Nat.le_of_ble_eq_true rfl, Nat.le_of_ble_eq_true rfl⟩) hS (fun q _ h => hFc q h) hFc (fun u_11 t H1 locs ht hvm hw hB hz1 hk1 hS => ?_)
          subst u_11
          obtain ⟨hP1, hK1, hD1⟩ := hB
          rw [ht] at hP1
          obtain ⟨hP, hD⟩ := va_join (wr := [(a_table, .inr (3, [.int v_table_columnCount, .int v_table_neededCount, .ref a_table_due, .ref a_table_columnsOf, .ref a_table_colours, .ref a_table_rowsOf, .ref a_table_clashesOf, .int v_table_rowCount])), (a_rowImages, .inl (cI, 480, .inl v_rowImages)), (a_p1, .inl (cJ, 100, .inr (.inl v_p1)))]) (w1 := ws_X3_joinClasses cB cI cJ cZ a_this a_classOf a_table a_targets a_rowImages v_count o_11) hP hD [0, 3] [1, 2, 4] rfl rfl (by decide) (by decide) hk1 hFc hP1 hD1
          generalize H1 = H at hP hS ⊢
          have hP : va_P (dC, dI) vwCl (ws_X3_countClasses cB cI cJ cZ a_this a_table a_rowImages a_classOf a_p1 a_targets a_table_due a_table_columnsOf a_table_colours a_table_rowsOf a_table_clashesOf v_count v_table_columnCount v_table_neededCount v_table_rowCount v_rowImages o_11 v_p1) H := hP.sub [3, 0, 1, 4, 2] rfl
          have hD : va_D A (ws_X3_countClasses cB cI cJ cZ a_this a_table a_rowImages a_classOf a_p1 a_targets a_table_due a_table_columnsOf a_table_colours a_table_rowsOf a_table_clashesOf v_count v_table_columnCount v_table_neededCount v_table_rowCount v_rowImages o_11 v_p1) := hD.sub [3, 0, 1, 4, 2] (by decide) rfl
          refine lv_iinc (v := (x3 + (-1))) (lv' := [(3, .int (x3 + (-1))), (6, .int o_4.1), (0, .ref a_this), (1, .ref a_p1), (2, .int x2), (4, .int x4), (5, .int x5)]) hx hb dX3_countClasses_105 hl (k := 4) rfl rfl (by decide) rfl (fun ls hl => ?_)
          exact w_X3_countClasses_108 C0 hK hk_29 ih o_11 x2 (x3 + (-1)) x4 x5 hf _ _ hP hD hS ls (lv_sub hl [2, 3, 4, 0, 5, 6] rfl)
set_option maxHeartbeats 4000000 in
set_option maxRecDepth 100000 in
theorem w_X3_countClasses_29 {p : Program} {l : Launch} {e : Env} {s : State} {m : MethodId} {args : Array Value} {below : List Frame} {meth : Method} {c : Code} {A : Nat → Prop} {dC : Nat → ClassId} {dI : Nat → Nat → Nat} {cB cI cJ cZ : ClassId} {a_this a_table a_rowImages a_classOf a_p1 a_targets a_table_due a_table_columnsOf a_table_colours a_table_rowsOf a_table_clashesOf : Nat} {v_count : Int32} {v_table_columnCount : Int32} {v_table_neededCount : Int32} {v_table_rowCount : Int32} {v_rowImages : (Nat → Int32)} {v_p1 : (Nat → Int64)} {out : Int32 × (Nat → Int32)} (C0 : Cx RX3 cX3_countClasses (some .int) 7 wsX3_countClasses p s m args meth c A) (hK : va_K (dC, dI) vwCl (tysG cB cI cJ cZ) s)  : ∀ n : Nat, g_X3_countClasses_29 p l e s m args below meth c A dC dI cB cI cJ cZ a_this a_table a_rowImages a_classOf a_p1 a_targets a_table_due a_table_columnsOf a_table_colours a_table_rowsOf a_table_clashesOf v_count v_table_columnCount v_table_neededCount v_table_rowCount v_rowImages v_p1 out (f_X3_countClasses_29 v_count v_table_rowCount v_rowImages v_p1  n) := by
  obtain ⟨hx, hb, hr, hml, hown, hts, hlocks, hA⟩ := id C0
  intro n
  induction n with
  | zero =>
    intro v_classOf x2 x3 x4 hf H locs hP hD hS ls hl
    exact nomatch (show (none : Option (Int32 × (Nat → Int32))) = some out from hf)
  | succ n ih =>
    intro v_classOf x2 x3 x4 hf H locs hP hD hS ls hl
    replace hf : ((if v_count ≤ x4 then
  (some ((x3, v_classOf)))
  else
  (f_X3_countClasses_41 v_count v_table_rowCount v_rowImages v_p1 (f_X3_countClasses_29 v_count v_table_rowCount v_rowImages v_p1 n) 1000000 v_classOf x2 x3 x4 (0 : Int32))) : Option (Int32 × (Nat → Int32))) = some out := hf
    refine lv_iload hx hb dX3_countClasses_29 (lv_at hl 4 rfl) ?_
    refine lv_aload_n hx hb dX3_countClasses_31 rfl (lv_at hl 0 rfl) ?_
    refine va_get (D := (dC, dI)) (ci := 4) (v := .int v_count) (C := RX3) (T := TX3) (N := 5) hx hb hts in_X3_countClasses_X3 hown hK hP 0 rfl rfl 4 (by decide) (hts (.fieldLink RX3 25 "LinkedCovers$Turns" "count" "I") lk_X3_countClasses_f25) (fun _ h9 => h9) rfl dX3_countClasses_32 ?_
    refine lv_icmp_ge (tgt := 120) hx hb dX3_countClasses_35 (by decide) (fun c_12 => ?_) (fun c_12 => ?_)
    · replace hf := (if_pos c_12).symm.trans hf
      refine lv_iload_n hx hb dX3_countClasses_120 rfl (lv_at hl 3 rfl) ?_
      have h9 := Option.some.inj hf
      have h8 := congrArg Prod.fst h9
      have h7 := congrArg Prod.snd h9
      exact W.iret (v := x3) hx hb hr (fun t ht hW => ⟨⟨x3, v_classOf, rfl, ⟨h8, h7⟩, by rw [ht]; exact hP, va_K.moved hW.alike hK, hD⟩, hS.F ht⟩) hS.2.2 dX3_countClasses_121
    · replace hf := (if_neg c_12).symm.trans hf
      refine lv_iconst (v := 0) hx hb dX3_countClasses_38 (by decide) ?_
      refine lv_istore (lv' := [(5, .int (0 : Int32)), (0, .ref a_this), (1, .ref a_p1), (2, .int x2), (3, .int x3), (4, .int x4)]) hx hb dX3_countClasses_39 hl (by decide) rfl (fun ls hl => ?_)
      exact w_X3_countClasses_41 C0 hK ih 1000000 v_classOf x2 x3 x4 (0 : Int32) hf _ _ hP hD hS ls (lv_sub hl [1, 2, 3, 4, 5, 0] rfl)
set_option maxHeartbeats 4000000 in
set_option maxRecDepth 100000 in
theorem w_X3_countClasses_5 {p : Program} {l : Launch} {e : Env} {s : State} {m : MethodId} {args : Array Value} {below : List Frame} {meth : Method} {c : Code} {A : Nat → Prop} {dC : Nat → ClassId} {dI : Nat → Nat → Nat} {cB cI cJ cZ : ClassId} {a_this a_table a_rowImages a_classOf a_p1 a_targets a_table_due a_table_columnsOf a_table_colours a_table_rowsOf a_table_clashesOf : Nat} {v_count : Int32} {v_table_columnCount : Int32} {v_table_neededCount : Int32} {v_table_rowCount : Int32} {v_rowImages : (Nat → Int32)} {v_p1 : (Nat → Int64)} {out : Int32 × (Nat → Int32)} (C0 : Cx RX3 cX3_countClasses (some .int) 7 wsX3_countClasses p s m args meth c A) (hK : va_K (dC, dI) vwCl (tysG cB cI cJ cZ) s)  : ∀ n : Nat, g_X3_countClasses_5 p l e s m args below meth c A dC dI cB cI cJ cZ a_this a_table a_rowImages a_classOf a_p1 a_targets a_table_due a_table_columnsOf a_table_colours a_table_rowsOf a_table_clashesOf v_count v_table_columnCount v_table_neededCount v_table_rowCount v_rowImages v_p1 out (f_X3_countClasses_5 v_count v_table_rowCount v_rowImages v_p1  n) := by
  obtain ⟨hx, hb, hr, hml, hown, hts, hlocks, hA⟩ := id C0
  intro n
  induction n with
  | zero =>
    intro v_classOf x2 x3 x4 hf H locs hP hD hS ls hl
    exact nomatch (show (none : Option (Int32 × (Nat → Int32))) = some out from hf)
  | succ n ih =>
    intro v_classOf x2 x3 x4 hf H locs hP hD hS ls hl
    replace hf : ((if x2 ≤ x4 then
  (f_X3_countClasses_29 v_count v_table_rowCount v_rowImages v_p1 1000000 v_classOf x2 x3 (0 : Int32))
  else
  (if (x4 < 0 ∨ 100 ≤ Int32.toNatClampNeg x4) then none else
  f_X3_countClasses_5 v_count v_table_rowCount v_rowImages v_p1 n (upd v_classOf (Int32.toNatClampNeg x4) x4) x2 x3 (x4 + 1))) : Option (Int32 × (Nat → Int32))) = some out := hf
    refine lv_iload hx hb dX3_countClasses_5 (lv_at hl 4 rfl) ?_
    refine lv_iload_n hx hb dX3_countClasses_7 rfl (lv_at hl 2 rfl) ?_
    refine lv_icmp_ge (tgt := 26) hx hb dX3_countClasses_8 (by decide) (fun c_13 => ?_) (fun c_13 => ?_)
    · replace hf := (if_pos c_13).symm.trans hf
      refine lv_iconst (v := 0) hx hb dX3_countClasses_26 (by decide) ?_
      refine lv_istore (lv' := [(4, .int (0 : Int32)), (0, .ref a_this), (1, .ref a_p1), (2, .int x2), (3, .int x3)]) hx hb dX3_countClasses_27 hl (by decide) rfl (fun ls hl => ?_)
      exact w_X3_countClasses_29 C0 hK 1000000 v_classOf x2 x3 (0 : Int32) hf _ _ hP hD hS ls (lv_sub hl [1, 2, 3, 4, 0] rfl)
    · replace hf := (if_neg c_13).symm.trans hf
      refine lv_aload_n hx hb dX3_countClasses_11 rfl (lv_at hl 0 rfl) ?_
      refine va_get (D := (dC, dI)) (ci := 4) (v := .ref a_classOf) (C := RX3) (T := TX3) (N := 5) hx hb hts in_X3_countClasses_X3 hown hK hP 0 rfl rfl 3 (by decide) (hts (.fieldLink RX3 18 "LinkedCovers$Turns" "classOf" "[I") lk_X3_countClasses_f18) (fun _ h9 => h9) rfl dX3_countClasses_12 ?_
      refine lv_iload hx hb dX3_countClasses_15 (lv_at hl 4 rfl) ?_
      refine lv_iload hx hb dX3_countClasses_17 (lv_at hl 4 rfl) ?_
      obtain ⟨h_14, hf⟩ := gd_ck hf
      refine va_iast hx hb hK hP hD hS 3 1 rfl rfl h_14 dX3_countClasses_19 (fun H locs hP hD hS => ?_)
      have hP : va_P (dC, dI) vwCl (ws_X3_countClasses cB cI cJ cZ a_this a_table a_rowImages a_classOf a_p1 a_targets a_table_due a_table_columnsOf a_table_colours a_table_rowsOf a_table_clashesOf v_count v_table_columnCount v_table_neededCount v_table_rowCount v_rowImages (upd v_classOf (Int32.toNatClampNeg x4) x4) v_p1) H := hP
      have hD : va_D A (ws_X3_countClasses cB cI cJ cZ a_this a_table a_rowImages a_classOf a_p1 a_targets a_table_due a_table_columnsOf a_table_colours a_table_rowsOf a_table_clashesOf v_count v_table_columnCount v_table_neededCount v_table_rowCount v_rowImages (upd v_classOf (Int32.toNatClampNeg x4) x4) v_p1) := hD
      refine lv_iinc (v := (x4 + 1)) (lv' := [(4, .int (x4 + 1)), (0, .ref a_this), (1, .ref a_p1), (2, .int x2), (3, .int x3)]) hx hb dX3_countClasses_20 hl (k := 4) rfl rfl (by decide) rfl (fun ls hl => ?_)
      refine lv_goto (tgt := 5) hx hb dX3_countClasses_23 (by decide) ?_
      exact ih (upd v_classOf (Int32.toNatClampNeg x4) x4) x2 x3 (x4 + 1) hf _ _ hP hD hS ls (lv_sub hl [1, 2, 3, 4, 0] rfl)
set_option maxHeartbeats 4000000 in
set_option maxRecDepth 100000 in
theorem w_X3_countClasses_0 {p : Program} {l : Launch} {e : Env} {s : State} {m : MethodId} {args : Array Value} {below : List Frame} {meth : Method} {c : Code} {A : Nat → Prop} {dC : Nat → ClassId} {dI : Nat → Nat → Nat} {cB cI cJ cZ : ClassId} {a_this a_table a_rowImages a_classOf a_p1 a_targets a_table_due a_table_columnsOf a_table_colours a_table_rowsOf a_table_clashesOf : Nat} {v_count : Int32} {v_table_columnCount : Int32} {v_table_neededCount : Int32} {v_table_rowCount : Int32} {v_rowImages : (Nat → Int32)} {v_p1 : (Nat → Int64)} {out : Int32 × (Nat → Int32)} (C0 : Cx RX3 cX3_countClasses (some .int) 7 wsX3_countClasses p s m args meth c A) (hK : va_K (dC, dI) vwCl (tysG cB cI cJ cZ) s)  : g_X3_countClasses_0 p l e s m args below meth c A dC dI cB cI cJ cZ a_this a_table a_rowImages a_classOf a_p1 a_targets a_table_due a_table_columnsOf a_table_colours a_table_rowsOf a_table_clashesOf v_count v_table_columnCount v_table_neededCount v_table_rowCount v_rowImages v_p1 out (f_X3_countClasses v_count v_table_rowCount v_rowImages v_p1 ) := by
  obtain ⟨hx, hb, hr, hml, hown, hts, hlocks, hA⟩ := id C0
  intro v_classOf x2 hf H locs hP hD hS ls hl
  replace hf : ((f_X3_countClasses_5 v_count v_table_rowCount v_rowImages v_p1 1000000 v_classOf x2 x2 (0 : Int32)) : Option (Int32 × (Nat → Int32))) = some out := hf
  refine lv_iload_n hx hb dX3_countClasses_0 rfl (lv_at hl 2 rfl) ?_
  refine lv_istore_n (lv' := [(3, .int x2), (0, .ref a_this), (1, .ref a_p1), (2, .int x2)]) hx hb dX3_countClasses_1 rfl hl (by decide) rfl (fun ls hl => ?_)
  refine lv_iconst (v := 0) hx hb dX3_countClasses_2 (by decide) ?_
  refine lv_istore (lv' := [(4, .int (0 : Int32)), (3, .int x2), (0, .ref a_this), (1, .ref a_p1), (2, .int x2)]) hx hb dX3_countClasses_3 hl (by decide) rfl (fun ls hl => ?_)
  exact w_X3_countClasses_5 C0 hK 1000000 v_classOf x2 x2 (0 : Int32) hf _ _ hP hD hS ls (lv_sub hl [2, 3, 4, 1, 0] rfl)
theorem nd_X3_countClasses : yX3_countClasses.cls ≠ "java/lang/invoke/MethodHandle" ∧ yX3_countClasses.cls ≠ "java/lang/invoke/VarHandle" ∧ (parseMethodDescriptor yX3_countClasses.desc).map (fun d => d.parameters.length) = some 2 := by decide +kernel
set_option maxHeartbeats 4000000 in
set_option maxRecDepth 100000 in
theorem c_X3_countClasses (l : Launch) (dC : Nat → ClassId) (dI : Nat → Nat → Nat) (cB cI cJ cZ : ClassId) (a_this a_table a_rowImages a_classOf a_p1 a_targets a_table_due a_table_columnsOf a_table_colours a_table_rowsOf a_table_clashesOf : Nat) (sz : Nat) (v_count : Int32) (v_table_columnCount : Int32) (v_table_neededCount : Int32) (v_table_rowCount : Int32) (v_rowImages : (Nat → Int32)) (v_classOf : (Nat → Int32)) (v_p1 : (Nat → Int64)) (x2 : Int32) (out : Int32 × (Nat → Int32)) (hf : f_X3_countClasses v_count v_table_rowCount v_rowImages v_p1 v_classOf x2 = some out) : Met l yX3_countClasses wsX3_countClasses rm_X3_countClasses (va_Pc [.ref a_this, .ref a_p1, .int x2] (fun U => U.heap.size = sz ∧ va_P (dC, dI) vwCl (ws_X3_countClasses cB cI cJ cZ a_this a_table a_rowImages a_classOf a_p1 a_targets a_table_due a_table_columnsOf a_table_colours a_table_rowsOf a_table_clashesOf v_count v_table_columnCount v_table_neededCount v_table_rowCount v_rowImages v_classOf v_p1) U.heap ∧ va_K (dC, dI) vwCl (tysG cB cI cJ cZ) U ∧ va_D (fun _ => True) (ws_X3_countClasses cB cI cJ cZ a_this a_table a_rowImages a_classOf a_p1 a_targets a_table_due a_table_columnsOf a_table_colours a_table_rowsOf a_table_clashesOf v_count v_table_columnCount v_table_neededCount v_table_rowCount v_rowImages v_classOf v_p1))) (qc_X3_countClasses (va_A (ws_X3_countClasses cB cI cJ cZ a_this a_table a_rowImages a_classOf a_p1 a_targets a_table_due a_table_columnsOf a_table_colours a_table_rowsOf a_table_clashesOf v_count v_table_columnCount v_table_neededCount v_table_rowCount v_rowImages v_classOf v_p1) sz) dC dI cB cI cJ cZ a_this a_table a_rowImages a_classOf a_p1 a_targets a_table_due a_table_columnsOf a_table_colours a_table_rowsOf a_table_clashesOf v_count v_table_columnCount v_table_neededCount v_table_rowCount v_rowImages v_p1 out) 0 0 (va_A (ws_X3_countClasses cB cI cJ cZ a_this a_table a_rowImages a_classOf a_p1 a_targets a_table_due a_table_columnsOf a_table_colours a_table_rowsOf a_table_clashesOf v_count v_table_columnCount v_table_neededCount v_table_rowCount v_rowImages v_classOf v_p1) sz) := by
  refine Met.ofW (cc := cX3_countClasses) (maxL := 7) (ret := (some .int)) (by decide) rfl ?_
  intro p e s m args below meth c s₁ B hml hv
  obtain ⟨rfl, hsz, hP, hK, hD0⟩ := hv
  subst hsz
  have hD := hD0.self (sz := s.heap.size)
  generalize hAe : va_A (ws_X3_countClasses cB cI cJ cZ a_this a_table a_rowImages a_classOf a_p1 a_targets a_table_due a_table_columnsOf a_table_colours a_table_rowsOf a_table_clashesOf v_count v_table_columnCount v_table_neededCount v_table_rowCount v_rowImages v_classOf v_p1) s.heap.size = A at hD ⊢
  have hA : ∀ q : Nat, s.heap.size ≤ q → A q := fun q h => by rw [← hAe]; exact Or.inr h
  have hl := lv_entry ([.ref a_this, .ref a_p1, .int x2]) (n := 7) (Nat.le_of_ble_eq_true rfl)
  rw [lg_entry_eq]
  generalize (lg_sl ([.ref a_this, .ref a_p1, .int x2]) ++ List.replicate (7 - (lg_sl ([.ref a_this, .ref a_p1, .int x2])).length) Slot.unset).toArray = ls at hl ⊢
  have hl : lv_has ls 7 [(0, .ref a_this), (1, .ref a_p1), (2, .int x2)] := hl
  exact w_X3_countClasses_0 ⟨B.exec, B.bytes, B.returns, hml, findClass_of_methodNamed B.named, atoms_spec (ws := wsX3_countClasses) B.pre, B.notSynchronized, hA⟩ hK v_classOf x2 hf _ _ hP hD va_S.rf ls (lv_sub hl [0, 1, 2] rfl)
