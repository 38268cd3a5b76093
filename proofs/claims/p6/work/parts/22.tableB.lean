-- X2.holdsBox(III)Z: 33 instructions
theorem in_X2_holdsBox_X2 : ∀ w ∈ wsX20, w ∈ wsX2_holdsBox := by decide +kernel
abbrev ws_X2_holdsBox (cB cI cJ cZ : ClassId) (a_this a_due a_columnsOf a_colours a_rowsOf a_clashesOf : Nat) (v_columnCount : Int32) (v_neededCount : Int32) (v_rowCount : Int32) : va_W := [(a_this, .inr (3, [.int v_columnCount, .int v_neededCount, .ref a_due, .ref a_columnsOf, .ref a_colours, .ref a_rowsOf, .ref a_clashesOf, .int v_rowCount]))]
abbrev rm_X2_holdsBox : Room := { frames := 0, cells := 0, slots := 0, locals := 0 }
theorem lk_X2_holdsBox_f26 : Cond.fieldLink RX2 26 "LinkedCovers$Table" "columnCount" "I" ∈ wsX2_holdsBox := by decide +kernel
def f_X2_holdsBox_56 (v_columnCount : Int32)  (y0 : Int32) : Option (Int32 × Unit) :=
  if ¬ (y0 = 0 ∨ y0 = 1) then none else
  some ((y0, ()))
def f_X2_holdsBox_55 (v_columnCount : Int32)   : Option (Int32 × Unit) :=
  f_X2_holdsBox_56 v_columnCount (0 : Int32)
def f_X2_holdsBox (v_columnCount : Int32)  (x1 : Int32) (x2 : Int32) (x3 : Int32) : Option (Int32 × Unit) :=
  if x1 < (1 : Int32) then
  (f_X2_holdsBox_55 v_columnCount )
  else
  (if x2 < (1 : Int32) then
  (f_X2_holdsBox_55 v_columnCount )
  else
  (if x3 < (1 : Int32) then
  (f_X2_holdsBox_55 v_columnCount )
  else
  (if v_columnCount < x1 then
  (f_X2_holdsBox_55 v_columnCount )
  else
  (if v_columnCount < x2 then
  (f_X2_holdsBox_55 v_columnCount )
  else
  (if v_columnCount < x3 then
  (f_X2_holdsBox_55 v_columnCount )
  else
  (if v_columnCount < ((x1 * x2) * x3) then
  (f_X2_holdsBox_55 v_columnCount )
  else
  (f_X2_holdsBox_56 v_columnCount (1 : Int32))))))))
abbrev qc_X2_holdsBox (A : Nat → Prop) (dC : Nat → ClassId) (dI : Nat → Nat → Nat) (cB cI cJ cZ : ClassId) (a_this a_due a_columnsOf a_colours a_rowsOf a_clashesOf : Nat) (v_columnCount : Int32) (v_neededCount : Int32) (v_rowCount : Int32) (out : Int32 × Unit) : Array Value → State → Outcome → State → Prop := va_Qi (fun (r : Int32) (u : Unit) => r = out.1 ∧ u = out.2) (fun (u : Unit) (t : State) => va_P (dC, dI) vwCl (ws_X2_holdsBox cB cI cJ cZ a_this a_due a_columnsOf a_colours a_rowsOf a_clashesOf v_columnCount v_neededCount v_rowCount) t.heap ∧ va_K (dC, dI) vwCl (tysG cB cI cJ cZ) t ∧ va_D A (ws_X2_holdsBox cB cI cJ cZ a_this a_due a_columnsOf a_colours a_rowsOf a_clashesOf v_columnCount v_neededCount v_rowCount)) A
abbrev g_X2_holdsBox_56 (p : Program) (l : Launch) (e : Env) (s : State) (m : MethodId) (args : Array Value) (below : List Frame) (meth : Method) (c : Code) (A : Nat → Prop) (dC : Nat → ClassId) (dI : Nat → Nat → Nat) (cB cI cJ cZ : ClassId) (a_this a_due a_columnsOf a_colours a_rowsOf a_clashesOf : Nat) (v_columnCount : Int32) (v_neededCount : Int32) (v_rowCount : Int32) (out : Int32 × Unit) (k : Int32 → Option (Int32 × Unit)) : Prop := ∀ (y0 : Int32), k y0 = some out → ∀ (H : Heap) (locs : List Loc), va_P (dC, dI) vwCl (ws_X2_holdsBox cB cI cJ cZ a_this a_due a_columnsOf a_colours a_rowsOf a_clashesOf v_columnCount v_neededCount v_rowCount) H → va_D A (ws_X2_holdsBox cB cI cJ cZ a_this a_due a_columnsOf a_colours a_rowsOf a_clashesOf v_columnCount v_neededCount v_rowCount) → va_S A s.heap H locs → ∀ (ls : Array Slot), lv_has ls 4 [] → W p l e (headSpec wsX2_holdsBox rm_X2_holdsBox).room s m args below meth c H locs 0 0 (MQ below (qc_X2_holdsBox A dC dI cB cI cJ cZ a_this a_due a_columnsOf a_colours a_rowsOf a_clashesOf v_columnCount v_neededCount v_rowCount out) args s 0 0 A) (F0 m 56 ls [.int y0])
abbrev g_X2_holdsBox_55 (p : Program) (l : Launch) (e : Env) (s : State) (m : MethodId) (args : Array Value) (below : List Frame) (meth : Method) (c : Code) (A : Nat → Prop) (dC : Nat → ClassId) (dI : Nat → Nat → Nat) (cB cI cJ cZ : ClassId) (a_this a_due a_columnsOf a_colours a_rowsOf a_clashesOf : Nat) (v_columnCount : Int32) (v_neededCount : Int32) (v_rowCount : Int32) (out : Int32 × Unit) (k : Option (Int32 × Unit)) : Prop := ∀ (_ : Unit), k = some out → ∀ (H : Heap) (locs : List Loc), va_P (dC, dI) vwCl (ws_X2_holdsBox cB cI cJ cZ a_this a_due a_columnsOf a_colours a_rowsOf a_clashesOf v_columnCount v_neededCount v_rowCount) H → va_D A (ws_X2_holdsBox cB cI cJ cZ a_this a_due a_columnsOf a_colours a_rowsOf a_clashesOf v_columnCount v_neededCount v_rowCount) → va_S A s.heap H locs → ∀ (ls : Array Slot), lv_has ls 4 [] → W p l e (headSpec wsX2_holdsBox rm_X2_holdsBox).room s m args below meth c H locs 0 0 (MQ below (qc_X2_holdsBox A dC dI cB cI cJ cZ a_this a_due a_columnsOf a_colours a_rowsOf a_clashesOf v_columnCount v_neededCount v_rowCount out) args s 0 0 A) (F0 m 55 ls [])
abbrev g_X2_holdsBox_0 (p : Program) (l : Launch) (e : Env) (s : State) (m : MethodId) (args : Array Value) (below : List Frame) (meth : Method) (c : Code) (A : Nat → Prop) (dC : Nat → ClassId) (dI : Nat → Nat → Nat) (cB cI cJ cZ : ClassId) (a_this a_due a_columnsOf a_colours a_rowsOf a_clashesOf : Nat) (v_columnCount : Int32) (v_neededCount : Int32) (v_rowCount : Int32) (out : Int32 × Unit) (k : Int32 → Int32 → Int32 → Option (Int32 × Unit)) : Prop := ∀ (x1 : Int32) (x2 : Int32) (x3 : Int32), k x1 x2 x3 = some out → ∀ (H : Heap) (locs : List Loc), va_P (dC, dI) vwCl (ws_X2_holdsBox cB cI cJ cZ a_this a_due a_columnsOf a_colours a_rowsOf a_clashesOf v_columnCount v_neededCount v_rowCount) H → va_D A (ws_X2_holdsBox cB cI cJ cZ a_this a_due a_columnsOf a_colours a_rowsOf a_clashesOf v_columnCount v_neededCount v_rowCount) → va_S A s.heap H locs → ∀ (ls : Array Slot), lv_has ls 4 [(0, .ref a_this), (1, .int x1), (2, .int x2), (3, .int x3)] → W p l e (headSpec wsX2_holdsBox rm_X2_holdsBox).room s m args below meth c H locs 0 0 (MQ below (qc_X2_holdsBox A dC dI cB cI cJ cZ a_this a_due a_columnsOf a_colours a_rowsOf a_clashesOf v_columnCount v_neededCount v_rowCount out) args s 0 0 A) (F0 m 0 ls [])
set_option maxHeartbeats 4000000 in
set_option maxRecDepth 100000 in
theorem w_X2_holdsBox_56 {p : Program} {l : Launch} {e : Env} {s : State} {m : MethodId} {args : Array Value} {below : List Frame} {meth : Method} {c : Code} {A : Nat → Prop} {dC : Nat → ClassId} {dI : Nat → Nat → Nat} {cB cI cJ cZ : ClassId} {a_this a_due a_columnsOf a_colours a_rowsOf a_clashesOf : Nat} {v_columnCount : Int32} {v_neededCount : Int32} {v_rowCount : Int32} {out : Int32 × Unit} (C0 : Cx RX2 cX2_holdsBox (some .boolean) 4 wsX2_holdsBox p s m args meth c A) (hK : va_K (dC, dI) vwCl (tysG cB cI cJ cZ) s)  : g_X2_holdsBox_56 p l e s m args below meth c A dC dI cB cI cJ cZ a_this a_due a_columnsOf a_colours a_rowsOf a_clashesOf v_columnCount v_neededCount v_rowCount out (f_X2_holdsBox_56 v_columnCount ) := by
  obtain ⟨hx, hb, hr, hml, hown, hts, hlocks, hA⟩ := id C0
  intro y0 hf H locs hP hD hS ls hl
  replace hf : ((if ¬ (y0 = 0 ∨ y0 = 1) then none else
  some ((y0, ()))) : Option (Int32 × Unit)) = some out := hf
  obtain ⟨h_1, hf⟩ := gd_ck hf
  have h9 := Option.some.inj hf
  have h8 := congrArg Prod.fst h9
  have h7 := congrArg Prod.snd h9
  exact W.zret (v := y0) hx hb hr (gd_z h_1) (fun t ht hW => ⟨⟨y0, (), rfl, ⟨h8, h7⟩, by rw [ht]; exact hP, va_K.moved hW.alike hK, hD⟩, hS.F ht⟩) hS.2.2 dX2_holdsBox_56
set_option maxHeartbeats 4000000 in
set_option maxRecDepth 100000 in
theorem w_X2_holdsBox_55 {p : Program} {l : Launch} {e : Env} {s : State} {m : MethodId} {args : Array Value} {below : List Frame} {meth : Method} {c : Code} {A : Nat → Prop} {dC : Nat → ClassId} {dI : Nat → Nat → Nat} {cB cI cJ cZ : ClassId} {a_this a_due a_columnsOf a_colours a_rowsOf a_clashesOf : Nat} {v_columnCount : Int32} {v_neededCount : Int32} {v_rowCount : Int32} {out : Int32 × Unit} (C0 : Cx RX2 cX2_holdsBox (some .boolean) 4 wsX2_holdsBox p s m args meth c A) (hK : va_K (dC, dI) vwCl (tysG cB cI cJ cZ) s)  : g_X2_holdsBox_55 p l e s m args below meth c A dC dI cB cI cJ cZ a_this a_due a_columnsOf a_colours a_rowsOf a_clashesOf v_columnCount v_neededCount v_rowCount out (f_X2_holdsBox_55 v_columnCount ) := by
  obtain ⟨hx, hb, hr, hml, hown, hts, hlocks, hA⟩ := id C0
  intro _ hf H locs hP hD hS ls hl
  replace hf : ((f_X2_holdsBox_56 v_columnCount (0 : Int32)) : Option (Int32 × Unit)) = some out := hf
  refine lv_iconst (v := 0) hx hb dX2_holdsBox_55 (by decide) ?_
  exact w_X2_holdsBox_56 C0 hK (0 : Int32) hf _ _ hP hD hS ls (lv_sub hl [] rfl)
set_option maxHeartbeats 4000000 in
set_option maxRecDepth 100000 in
theorem w_X2_holdsBox_0 {p : Program} {l : Launch} {e : Env} {s : State} {m : MethodId} {args : Array Value} {below : List Frame} {meth : Method} {c : Code} {A : Nat → Prop} {dC : Nat → ClassId} {dI : Nat → Nat → Nat} {cB cI cJ cZ : ClassId} {a_this a_due a_columnsOf a_colours a_rowsOf a_clashesOf : Nat} {v_columnCount : Int32} {v_neededCount : Int32} {v_rowCount : Int32} {out : Int32 × Unit} (C0 : Cx RX2 cX2_holdsBox (some .boolean) 4 wsX2_holdsBox p s m args meth c A) (hK : va_K (dC, dI) vwCl (tysG cB cI cJ cZ) s)  : g_X2_holdsBox_0 p l e s m args below meth c A dC dI cB cI cJ cZ a_this a_due a_columnsOf a_colours a_rowsOf a_clashesOf v_columnCount v_neededCount v_rowCount out (f_X2_holdsBox v_columnCount ) := by
  obtain ⟨hx, hb, hr, hml, hown, hts, hlocks, hA⟩ := id C0
  intro x1 x2 x3 hf H locs hP hD hS ls hl
  replace hf : ((if x1 < (1 : Int32) then
  (f_X2_holdsBox_55 v_columnCount )
  else
  (if x2 < (1 : Int32) then
  (f_X2_holdsBox_55 v_columnCount )
  else
  (if x3 < (1 : Int32) then
  (f_X2_holdsBox_55 v_columnCount )
  else
  (if v_columnCount < x1 then
  (f_X2_holdsBox_55 v_columnCount )
  else
  (if v_columnCount < x2 then
  (f_X2_holdsBox_55 v_columnCount )
  else
  (if v_columnCount < x3 then
  (f_X2_holdsBox_55 v_columnCount )
  else
  (if v_columnCount < ((x1 * x2) * x3) then
  (f_X2_holdsBox_55 v_columnCount )
  else
  (f_X2_holdsBox_56 v_columnCount (1 : Int32))))))))) : Option (Int32 × Unit)) = some out := hf
  refine lv_iload_n hx hb dX2_holdsBox_0 rfl (lv_at hl 1 rfl) ?_
  refine lv_iconst (v := 1) hx hb dX2_holdsBox_1 (by decide) ?_
  refine lv_icmp_lt (tgt := 55) hx hb dX2_holdsBox_2 (by decide) (fun c_2 => ?_) (fun c_2 => ?_)
  · replace hf := (if_pos c_2).symm.trans hf
    exact w_X2_holdsBox_55 C0 hK () hf _ _ hP hD hS ls (lv_sub hl [] rfl)
  · replace hf := (if_neg c_2).symm.trans hf
    refine lv_iload_n hx hb dX2_holdsBox_5 rfl (lv_at hl 2 rfl) ?_
    refine lv_iconst (v := 1) hx hb dX2_holdsBox_6 (by decide) ?_
    refine lv_icmp_lt (tgt := 55) hx hb dX2_holdsBox_7 (by decide) (fun c_3 => ?_) (fun c_3 => ?_)
    · replace hf := (if_pos c_3).symm.trans hf
      exact w_X2_holdsBox_55 C0 hK () hf _ _ hP hD hS ls (lv_sub hl [] rfl)
    · replace hf := (if_neg c_3).symm.trans hf
      refine lv_iload_n hx hb dX2_holdsBox_10 rfl (lv_at hl 3 rfl) ?_
      refine lv_iconst (v := 1) hx hb dX2_holdsBox_11 (by decide) ?_
      refine lv_icmp_lt (tgt := 55) hx hb dX2_holdsBox_12 (by decide) (fun c_4 => ?_) (fun c_4 => ?_)
      · replace hf := (if_pos c_4).symm.trans hf
        exact w_X2_holdsBox_55 C0 hK () hf _ _ hP hD hS ls (lv_sub hl [] rfl)
      · replace hf := (if_neg c_4).symm.trans hf
        refine lv_iload_n hx hb dX2_holdsBox_15 rfl (lv_at hl 1 rfl) ?_
        refine lv_aload_n hx hb dX2_holdsBox_16 rfl (lv_at hl 0 rfl) ?_
        refine va_get (D := (dC, dI)) (ci := 3) (v := .int v_columnCount) (C := RX2) (T := TX2) (N := 8) hx hb hts in_X2_holdsBox_X2 hown hK hP 0 rfl rfl 0 (by decide) (hts (.fieldLink RX2 26 "LinkedCovers$Table" "columnCount" "I") lk_X2_holdsBox_f26) (fun _ h9 => h9) rfl dX2_holdsBox_17 ?_
        refine lv_icmp_gt (tgt := 55) hx hb dX2_holdsBox_20 (by decide) (fun c_5 => ?_) (fun c_5 => ?_)
        · replace hf := (if_pos c_5).symm.trans hf
          exact w_X2_holdsBox_55 C0 hK () hf _ _ hP hD hS ls (lv_sub hl [] rfl)
        · replace hf := (if_neg c_5).symm.trans hf
          refine lv_iload_n hx hb dX2_holdsBox_23 rfl (lv_at hl 2 rfl) ?_
          refine lv_aload_n hx hb dX2_holdsBox_24 rfl (lv_at hl 0 rfl) ?_
          refine va_get (D := (dC, dI)) (ci := 3) (v := .int v_columnCount) (C := RX2) (T := TX2) (N := 8) hx hb hts in_X2_holdsBox_X2 hown hK hP 0 rfl rfl 0 (by decide) (hts (.fieldLink RX2 26 "LinkedCovers$Table" "columnCount" "I") lk_X2_holdsBox_f26) (fun _ h9 => h9) rfl dX2_holdsBox_25 ?_
          refine lv_icmp_gt (tgt := 55) hx hb dX2_holdsBox_28 (by decide) (fun c_6 => ?_) (fun c_6 => ?_)
          · replace hf := (if_pos c_6).symm.trans hf
            exact w_X2_holdsBox_55 C0 hK () hf _ _ hP hD hS ls (lv_sub hl [] rfl)
          · replace hf := (if_neg c_6).symm.trans hf
            refine lv_iload_n hx hb dX2_holdsBox_31 rfl (lv_at hl 3 rfl) ?_
            refine lv_aload_n hx hb dX2_holdsBox_32 rfl (lv_at hl 0 rfl) ?_
            refine va_get (D := (dC, dI)) (ci := 3) (v := .int v_columnCount) (C := RX2) (T := TX2) (N := 8) hx hb hts in_X2_holdsBox_X2 hown hK hP 0 rfl rfl 0 (by decide) (hts (.fieldLink RX2 26 "LinkedCovers$Table" "columnCount" "I") lk_X2_holdsBox_f26) (fun _ h9 => h9) rfl dX2_holdsBox_33 ?_
            refine lv_icmp_gt (tgt := 55) hx hb dX2_holdsBox_36 (by decide) (fun c_7 => ?_) (fun c_7 => ?_)
            · replace hf := (if_pos c_7).symm.trans hf
              exact w_X2_holdsBox_55 C0 hK () hf _ _ hP hD hS ls (lv_sub hl [] rfl)
            · replace hf := (if_neg c_7).symm.trans hf
              refine lv_iload_n hx hb dX2_holdsBox_39 rfl (lv_at hl 1 rfl) ?_
              refine lv_iload_n hx hb dX2_holdsBox_40 rfl (lv_at hl 2 rfl) ?_
              refine lv_imul hx hb dX2_holdsBox_41 ?_
              refine lv_iload_n hx hb dX2_holdsBox_42 rfl (lv_at hl 3 rfl) ?_
              refine lv_imul hx hb dX2_holdsBox_43 ?_
              refine lv_aload_n hx hb dX2_holdsBox_44 rfl (lv_at hl 0 rfl) ?_
              refine va_get (D := (dC, dI)) (ci := 3) (v := .int v_columnCount) (C := RX2) (T := TX2) (N := 8) hx hb hts in_X2_holdsBox_X2 hown hK hP 0 rfl rfl 0 (by decide) (hts (.fieldLink RX2 26 "LinkedCovers$Table" "columnCount" "I") lk_X2_holdsBox_f26) (fun _ h9 => h9) rfl dX2_holdsBox_45 ?_
              refine lv_icmp_gt (tgt := 55) hx hb dX2_holdsBox_48 (by decide) (fun c_8 => ?_) (fun c_8 => ?_)
              · replace hf := (if_pos c_8).symm.trans hf
                exact w_X2_holdsBox_55 C0 hK () hf _ _ hP hD hS ls (lv_sub hl [] rfl)
              · replace hf := (if_neg c_8).symm.trans hf
                refine lv_iconst (v := 1) hx hb dX2_holdsBox_51 (by decide) ?_
                refine lv_goto (tgt := 56) hx hb dX2_holdsBox_52 (by decide) ?_
                exact w_X2_holdsBox_56 C0 hK (1 : Int32) hf _ _ hP hD hS ls (lv_sub hl [] rfl)
theorem nd_X2_holdsBox : yX2_holdsBox.cls ≠ "java/lang/invoke/MethodHandle" ∧ yX2_holdsBox.cls ≠ "java/lang/invoke/VarHandle" ∧ (parseMethodDescriptor yX2_holdsBox.desc).map (fun d => d.parameters.length) = some 3 := by decide +kernel
set_option maxHeartbeats 4000000 in
set_option maxRecDepth 100000 in
theorem c_X2_holdsBox (l : Launch) (dC : Nat → ClassId) (dI : Nat → Nat → Nat) (cB cI cJ cZ : ClassId) (a_this a_due a_columnsOf a_colours a_rowsOf a_clashesOf : Nat) (sz : Nat) (v_columnCount : Int32) (v_neededCount : Int32) (v_rowCount : Int32) (x1 : Int32) (x2 : Int32) (x3 : Int32) (out : Int32 × Unit) (hf : f_X2_holdsBox v_columnCount x1 x2 x3 = some out) : Met l yX2_holdsBox wsX2_holdsBox rm_X2_holdsBox (va_Pc [.ref a_this, .int x1, .int x2, .int x3] (fun U => U.heap.size = sz ∧ va_P (dC, dI) vwCl (ws_X2_holdsBox cB cI cJ cZ a_this a_due a_columnsOf a_colours a_rowsOf a_clashesOf v_columnCount v_neededCount v_rowCount) U.heap ∧ va_K (dC, dI) vwCl (tysG cB cI cJ cZ) U ∧ va_D (fun _ => True) (ws_X2_holdsBox cB cI cJ cZ a_this a_due a_columnsOf a_colours a_rowsOf a_clashesOf v_columnCount v_neededCount v_rowCount))) (qc_X2_holdsBox (va_A (ws_X2_holdsBox cB cI cJ cZ a_this a_due a_columnsOf a_colours a_rowsOf a_clashesOf v_columnCount v_neededCount v_rowCount) sz) dC dI cB cI cJ cZ a_this a_due a_columnsOf a_colours a_rowsOf a_clashesOf v_columnCount v_neededCount v_rowCount out) 0 0 (va_A (ws_X2_holdsBox cB cI cJ cZ a_this a_due a_columnsOf a_colours a_rowsOf a_clashesOf v_columnCount v_neededCount v_rowCount) sz) := by
  refine Met.ofW (cc := cX2_holdsBox) (maxL := 4) (ret := (some .boolean)) (by decide) rfl ?_
  intro p e s m args below meth c s₁ B hml hv
  obtain ⟨rfl, hsz, hP, hK, hD0⟩ := hv
  subst hsz
  have hD := hD0.self (sz := s.heap.size)
  generalize hAe : va_A (ws_X2_holdsBox cB cI cJ cZ a_this a_due a_columnsOf a_colours a_rowsOf a_clashesOf v_columnCount v_neededCount v_rowCount) s.heap.size = A at hD ⊢
  have hA : ∀ q : Nat, s.heap.size ≤ q → A q := fun q h => by rw [← hAe]; exact Or.inr h
  have hl := lv_entry ([.ref a_this, .int x1, .int x2, .int x3]) (n := 4) (Nat.le_of_ble_eq_true rfl)
  rw [lg_entry_eq]
  generalize (lg_sl ([.ref a_this, .int x1, .int x2, .int x3]) ++ List.replicate (4 - (lg_sl ([.ref a_this, .int x1, .int x2, .int x3])).length) Slot.unset).toArray = ls at hl ⊢
  have hl : lv_has ls 4 [(0, .ref a_this), (1, .int x1), (2, .int x2), (3, .int x3)] := hl
  exact w_X2_holdsBox_0 ⟨B.exec, B.bytes, B.returns, hml, findClass_of_methodNamed B.named, atoms_spec (ws := wsX2_holdsBox) B.pre, B.notSynchronized, hA⟩ hK x1 x2 x3 hf _ _ hP hD va_S.rf ls (lv_sub hl [0, 1, 2, 3] rfl)
-- X2.addRow()I: 11 instructions
theorem in_X2_addRow_X2 : ∀ w ∈ wsX20, w ∈ wsX2_addRow := by decide +kernel
abbrev ws_X2_addRow (cB cI cJ cZ : ClassId) (a_this a_due a_columnsOf a_colours a_rowsOf a_clashesOf : Nat) (v_columnCount : Int32) (v_neededCount : Int32) (v_rowCount : Int32) : va_W := [(a_this, .inr (3, [.int v_columnCount, .int v_neededCount, .ref a_due, .ref a_columnsOf, .ref a_colours, .ref a_rowsOf, .ref a_clashesOf, .int v_rowCount]))]
abbrev rm_X2_addRow : Room := { frames := 0, cells := 0, slots := 0, locals := 0 }
theorem lk_X2_addRow_f36 : Cond.fieldLink RX2 36 "LinkedCovers$Table" "rowCount" "I" ∈ wsX2_addRow := by decide +kernel
def f_X2_addRow   (v_rowCount : Int32) : Option (Int32 × Int32) :=
  some ((((v_rowCount + (1 : Int32)) - (1 : Int32)), (v_rowCount + (1 : Int32))))
abbrev qc_X2_addRow (A : Nat → Prop) (dC : Nat → ClassId) (dI : Nat → Nat → Nat) (cB cI cJ cZ : ClassId) (a_this a_due a_columnsOf a_colours a_rowsOf a_clashesOf : Nat) (v_columnCount : Int32) (v_neededCount : Int32) (out : Int32 × Int32) : Array Value → State → Outcome → State → Prop := va_Qi (fun (r : Int32) (u : Int32) => r = out.1 ∧ u = out.2) (fun (u : Int32) (t : State) => va_P (dC, dI) vwCl (ws_X2_addRow cB cI cJ cZ a_this a_due a_columnsOf a_colours a_rowsOf a_clashesOf v_columnCount v_neededCount u) t.heap ∧ va_K (dC, dI) vwCl (tysG cB cI cJ cZ) t ∧ va_D A (ws_X2_addRow cB cI cJ cZ a_this a_due a_columnsOf a_colours a_rowsOf a_clashesOf v_columnCount v_neededCount u)) A
abbrev g_X2_addRow_0 (p : Program) (l : Launch) (e : Env) (s : State) (m : MethodId) (args : Array Value) (below : List Frame) (meth : Method) (c : Code) (A : Nat → Prop) (dC : Nat → ClassId) (dI : Nat → Nat → Nat) (cB cI cJ cZ : ClassId) (a_this a_due a_columnsOf a_colours a_rowsOf a_clashesOf : Nat) (v_columnCount : Int32) (v_neededCount : Int32) (out : Int32 × Int32) (k : Int32 → Option (Int32 × Int32)) : Prop := ∀ (v_rowCount : Int32), k v_rowCount = some out → ∀ (H : Heap) (locs : List Loc), va_P (dC, dI) vwCl (ws_X2_addRow cB cI cJ cZ a_this a_due a_columnsOf a_colours a_rowsOf a_clashesOf v_columnCount v_neededCount v_rowCount) H → va_D A (ws_X2_addRow cB cI cJ cZ a_this a_due a_columnsOf a_colours a_rowsOf a_clashesOf v_columnCount v_neededCount v_rowCount) → va_S A s.heap H locs → ∀ (ls : Array Slot), lv_has ls 1 [(0, .ref a_this)] → W p l e (headSpec wsX2_addRow rm_X2_addRow).room s m args below meth c H locs 0 0 (MQ below (qc_X2_addRow A dC dI cB cI cJ cZ a_this a_due a_columnsOf a_colours a_rowsOf a_clashesOf v_columnCount v_neededCount out) args s 0 0 A) (F0 m 0 ls [])
set_option maxHeartbeats 4000000 in
set_option maxRecDepth 100000 in
theorem w_X2_addRow_0 {p : Program} {l : Launch} {e : Env} {s : State} {m : MethodId} {args : Array Value} {below : List Frame} {meth : Method} {c : Code} {A : Nat → Prop} {dC : Nat → ClassId} {dI : Nat → Nat → Nat} {cB cI cJ cZ : ClassId} {a_this a_due a_columnsOf a_colours a_rowsOf a_clashesOf : Nat} {v_columnCount : Int32} {v_neededCount : Int32} {out : Int32 × Int32} (C0 : Cx RX2 cX2_addRow (some .int) 1 wsX2_addRow p s m args meth c A) (hK : va_K (dC, dI) vwCl (tysG cB cI cJ cZ) s)  : g_X2_addRow_0 p l e s m args below meth c A dC dI cB cI cJ cZ a_this a_due a_columnsOf a_colours a_rowsOf a_clashesOf v_columnCount v_neededCount out (f_X2_addRow  ) := by
  obtain ⟨hx, hb, hr, hml, hown, hts, hlocks, hA⟩ := id C0
  intro v_rowCount hf H locs hP hD hS ls hl
  replace hf : ((some ((((v_rowCount + (1 : Int32)) - (1 : Int32)), (v_rowCount + (1 : Int32))))) : Option (Int32 × Int32)) = some out := hf
  refine lv_aload_n hx hb dX2_addRow_0 rfl (lv_at hl 0 rfl) ?_
  refine lv_dup hx hb dX2_addRow_1 rfl ?_
  refine va_get (D := (dC, dI)) (ci := 3) (v := .int v_rowCount) (C := RX2) (T := TX2) (N := 8) hx hb hts in_X2_addRow_X2 hown hK hP 0 rfl rfl 7 (by decide) (hts (.fieldLink RX2 36 "LinkedCovers$Table" "rowCount" "I") lk_X2_addRow_f36) (fun _ h9 => h9) rfl dX2_addRow_2 ?_
  refine lv_iconst (v := 1) hx hb dX2_addRow_5 (by decide) ?_
  refine lv_iadd hx hb dX2_addRow_6 ?_
  refine va_put (D := (dC, dI)) (ci := 3) (v := .int (v_rowCount + (1 : Int32))) (ty := .int) (C := RX2) (T := TX2) (N := 8) hx hb hts in_X2_addRow_X2 tyX2 tyX2_ok nmX2 hown hK hP hD hS 0 rfl rfl 7 (by decide) (hts (.fieldLink RX2 36 "LinkedCovers$Table" "rowCount" "I") lk_X2_addRow_f36) (fun _ h9 => h9) rfl (by decide +kernel) rfl rfl (Nat.le_of_ble_eq_true rfl) dX2_addRow_7 (fun H locs hP hD hS => ?_)
  have hP : va_P (dC, dI) vwCl (ws_X2_addRow cB cI cJ cZ a_this a_due a_columnsOf a_colours a_rowsOf a_clashesOf v_columnCount v_neededCount (v_rowCount + (1 : Int32))) H := hP
  have hD : va_D A (ws_X2_addRow cB cI cJ cZ a_this a_due a_columnsOf a_colours a_rowsOf a_clashesOf v_columnCount v_neededCount (v_rowCount + (1 : Int32))) := hD
  refine lv_aload_n hx hb dX2_addRow_10 rfl (lv_at hl 0 rfl) ?_
  refine va_get (D := (dC, dI)) (ci := 3) (v := .int (v_rowCount + (1 : Int32))) (C := RX2) (T := TX2) (N := 8) hx hb hts in_X2_addRow_X2 hown hK hP 0 rfl rfl 7 (by decide) (hts (.fieldLink RX2 36 "LinkedCovers$Table" "rowCount" "I") lk_X2_addRow_f36) (fun _ h9 => h9) rfl dX2_addRow_11 ?_
  refine lv_iconst (v := 1) hx hb dX2_addRow_14 (by decide) ?_
  refine lv_isub hx hb dX2_addRow_15 ?_
  have h9 := Option.some.inj hf
  have h8 := congrArg Prod.fst h9
  have h7 := congrArg Prod.snd h9
  exact W.iret (v := ((v_rowCount + (1 : Int32)) - (1 : Int32))) hx hb hr (fun t ht hW => ⟨⟨((v_rowCount + (1 : Int32)) - (1 : Int32)), (v_rowCount + (1 : Int32)), rfl, ⟨h8, h7⟩, by rw [ht]; exact hP, va_K.moved hW.alike hK, hD⟩, hS.F ht⟩) hS.2.2 dX2_addRow_16
theorem nd_X2_addRow : yX2_addRow.cls ≠ "java/lang/invoke/MethodHandle" ∧ yX2_addRow.cls ≠ "java/lang/invoke/VarHandle" ∧ (parseMethodDescriptor yX2_addRow.desc).map (fun d => d.parameters.length) = some 0 := by decide +kernel
set_option maxHeartbeats 4000000 in
set_option maxRecDepth 100000 in
theorem c_X2_addRow (l : Launch) (dC : Nat → ClassId) (dI : Nat → Nat → Nat) (cB cI cJ cZ : ClassId) (a_this a_due a_columnsOf a_colours a_rowsOf a_clashesOf : Nat) (sz : Nat) (v_columnCount : Int32) (v_neededCount : Int32) (v_rowCount : Int32)  (out : Int32 × Int32) (hf : f_X2_addRow  v_rowCount = some out) : Met l yX2_addRow wsX2_addRow rm_X2_addRow (va_Pc [.ref a_this] (fun U => U.heap.size = sz ∧ va_P (dC, dI) vwCl (ws_X2_addRow cB cI cJ cZ a_this a_due a_columnsOf a_colours a_rowsOf a_clashesOf v_columnCount v_neededCount v_rowCount) U.heap ∧ va_K (dC, dI) vwCl (tysG cB cI cJ cZ) U ∧ va_D (fun _ => True) (ws_X2_addRow cB cI cJ cZ a_this a_due a_columnsOf a_colours a_rowsOf a_clashesOf v_columnCount v_neededCount v_rowCount))) (qc_X2_addRow (va_A (ws_X2_addRow cB cI cJ cZ a_this a_due a_columnsOf a_colours a_rowsOf a_clashesOf v_columnCount v_neededCount v_rowCount) sz) dC dI cB cI cJ cZ a_this a_due a_columnsOf a_colours a_rowsOf a_clashesOf v_columnCount v_neededCount out) 0 0 (va_A (ws_X2_addRow cB cI cJ cZ a_this a_due a_columnsOf a_colours a_rowsOf a_clashesOf v_columnCount v_neededCount v_rowCount) sz) := by
  refine Met.ofW (cc := cX2_addRow) (maxL := 1) (ret := (some .int)) (by decide) rfl ?_
  intro p e s m args below meth c s₁ B hml hv
  obtain ⟨rfl, hsz, hP, hK, hD0⟩ := hv
  subst hsz
  have hD := hD0.self (sz := s.heap.size)
  generalize hAe : va_A (ws_X2_addRow cB cI cJ cZ a_this a_due a_columnsOf a_colours a_rowsOf a_clashesOf v_columnCount v_neededCount v_rowCount) s.heap.size = A at hD ⊢
  have hA : ∀ q : Nat, s.heap.size ≤ q → A q := fun q h => by rw [← hAe]; exact Or.inr h
  have hl := lv_entry ([.ref a_this]) (n := 1) (Nat.le_of_ble_eq_true rfl)
  rw [lg_entry_eq]
  generalize (lg_sl ([.ref a_this]) ++ List.replicate (1 - (lg_sl ([.ref a_this])).length) Slot.unset).toArray = ls at hl ⊢
  have hl : lv_has ls 1 [(0, .ref a_this)] := hl
  exact w_X2_addRow_0 ⟨B.exec, B.bytes, B.returns, hml, findClass_of_methodNamed B.named, atoms_spec (ws := wsX2_addRow) B.pre, B.notSynchronized, hA⟩ hK v_rowCount hf _ _ hP hD va_S.rf ls (lv_sub hl [0] rfl)
-- X2.lastRowTakes(I)Z: 28 instructions
theorem in_X2_lastRowTakes_X2 : ∀ w ∈ wsX20, w ∈ wsX2_lastRowTakes := by decide +kernel
abbrev ws_X2_lastRowTakes (cB cI cJ cZ : ClassId) (a_this a_columnsOf a_due a_colours a_rowsOf a_clashesOf : Nat) (v_columnCount : Int32) (v_neededCount : Int32) (v_rowCount : Int32) (v_columnsOf : (Nat → Int32)) : va_W := [(a_this, .inr (3, [.int v_columnCount, .int v_neededCount, .ref a_due, .ref a_columnsOf, .ref a_colours, .ref a_rowsOf, .ref a_clashesOf, .int v_rowCount])), (a_columnsOf, .inl (cI, 60, .inl v_columnsOf))]
abbrev rm_X2_lastRowTakes : Room := { frames := 1, cells := 0, slots := 0, locals := 20 }
theorem lk_X2_lastRowTakes_f36 : Cond.fieldLink RX2 36 "LinkedCovers$Table" "rowCount" "I" ∈ wsX2_lastRowTakes := by decide +kernel
theorem lk_X2_lastRowTakes_f9 : Cond.fieldLink RX2 9 "LinkedCovers$Table" "columnsOf" "[I" ∈ wsX2_lastRowTakes := by decide +kernel
def f_X2_lastRowTakes_44 (v_rowCount : Int32) (v_columnsOf : (Nat → Int32))  (y0 : Int32) : Option (Int32 × Unit) :=
  if ¬ (y0 = 0 ∨ y0 = 1) then none else
  some ((y0, ()))
def f_X2_lastRowTakes_43 (v_rowCount : Int32) (v_columnsOf : (Nat → Int32))   : Option (Int32 × Unit) :=
  f_X2_lastRowTakes_44 v_rowCount v_columnsOf (0 : Int32)
def f_X2_lastRowTakes (v_rowCount : Int32) (v_columnsOf : (Nat → Int32))  (x1 : Int32) : Option (Int32 × Unit) :=
  if (1 : Int32) ≤ v_rowCount then
  (if ((v_rowCount - (1 : Int32)) < 0 ∨ 60 ≤ Int32.toNatClampNeg (v_rowCount - (1 : Int32))) then none else
  if (((v_columnsOf (Int32.toNatClampNeg (v_rowCount - (1 : Int32)))) >>> (x1 &&& 31)) &&& (1 : Int32)) = 0 then
  ((f_J6_bitCount_0f7a4 (v_columnsOf (Int32.toNatClampNeg (v_rowCount - (1 : Int32))))).bind (fun o_5 =>
  if (8 : Int32) ≤ o_5.1 then
  (f_X2_lastRowTakes_43 v_rowCount v_columnsOf )
  else
  (f_X2_lastRowTakes_44 v_rowCount v_columnsOf (1 : Int32))))
  else
  (f_X2_lastRowTakes_43 v_rowCount v_columnsOf ))
  else
  (some (((0 : Int32), ())))
abbrev qc_X2_lastRowTakes (A : Nat → Prop) (dC : Nat → ClassId) (dI : Nat → Nat → Nat) (cB cI cJ cZ : ClassId) (a_this a_columnsOf a_due a_colours a_rowsOf a_clashesOf : Nat) (v_columnCount : Int32) (v_neededCount : Int32) (v_rowCount : Int32) (v_columnsOf : (Nat → Int32)) (out : Int32 × Unit) : Array Value → State → Outcome → State → Prop := va_Qi (fun (r : Int32) (u : Unit) => r = out.1 ∧ u = out.2) (fun (u : Unit) (t : State) => va_P (dC, dI) vwCl (ws_X2_lastRowTakes cB cI cJ cZ a_this a_columnsOf a_due a_colours a_rowsOf a_clashesOf v_columnCount v_neededCount v_rowCount v_columnsOf) t.heap ∧ va_K (dC, dI) vwCl (tysG cB cI cJ cZ) t ∧ va_D A (ws_X2_lastRowTakes cB cI cJ cZ a_this a_columnsOf a_due a_colours a_rowsOf a_clashesOf v_columnCount v_neededCount v_rowCount v_columnsOf)) A
abbrev g_X2_lastRowTakes_44 (p : Program) (l : Launch) (e : Env) (s : State) (m : MethodId) (args : Array Value) (below : List Frame) (meth : Method) (c : Code) (A : Nat → Prop) (dC : Nat → ClassId) (dI : Nat → Nat → Nat) (cB cI cJ cZ : ClassId) (a_this a_columnsOf a_due a_colours a_rowsOf a_clashesOf : Nat) (v_columnCount : Int32) (v_neededCount : Int32) (v_rowCount : Int32) (v_columnsOf : (Nat → Int32)) (out : Int32 × Unit) (k : Int32 → Option (Int32 × Unit)) : Prop := ∀ (y0 : Int32), k y0 = some out → ∀ (H : Heap) (locs : List Loc), va_P (dC, dI) vwCl (ws_X2_lastRowTakes cB cI cJ cZ a_this a_columnsOf a_due a_colours a_rowsOf a_clashesOf v_columnCount v_neededCount v_rowCount v_columnsOf) H → va_D A (ws_X2_lastRowTakes cB cI cJ cZ a_this a_columnsOf a_due a_colours a_rowsOf a_clashesOf v_columnCount v_neededCount v_rowCount v_columnsOf) → va_S A s.heap H locs → ∀ (ls : Array Slot), lv_has ls 3 [] → W p l e (headSpec wsX2_lastRowTakes rm_X2_lastRowTakes).room s m args below meth c H locs 0 0 (MQ below (qc_X2_lastRowTakes A dC dI cB cI cJ cZ a_this a_columnsOf a_due a_colours a_rowsOf a_clashesOf v_columnCount v_neededCount v_rowCount v_columnsOf out) args s 0 0 A) (F0 m 44 ls [.int y0])
abbrev g_X2_lastRowTakes_43 (p : Program) (l : Launch) (e : Env) (s : State) (m : MethodId) (args : Array Value) (below : List Frame) (meth : Method) (c : Code) (A : Nat → Prop) (dC : Nat → ClassId) (dI : Nat → Nat → Nat) (cB cI cJ cZ : ClassId) (a_this a_columnsOf a_due a_colours a_rowsOf a_clashesOf : Nat) (v_columnCount : Int32) (v_neededCount : Int32) (v_rowCount : Int32) (v_columnsOf : (Nat → Int32)) (out : Int32 × Unit) (k : Option (Int32 × Unit)) : Prop := ∀ (_ : Unit), k = some out → ∀ (H : Heap) (locs : List Loc), va_P (dC, dI) vwCl (ws_X2_lastRowTakes cB cI cJ cZ a_this a_columnsOf a_due a_colours a_rowsOf a_clashesOf v_columnCount v_neededCount v_rowCount v_columnsOf) H → va_D A (ws_X2_lastRowTakes cB cI cJ cZ a_this a_columnsOf a_due a_colours a_rowsOf a_clashesOf v_columnCount v_neededCount v_rowCount v_columnsOf) → va_S A s.heap H locs → ∀ (ls : Array Slot), lv_has ls 3 [] → W p l e (headSpec wsX2_lastRowTakes rm_X2_lastRowTakes).room s m args below meth c H locs 0 0 (MQ below (qc_X2_lastRowTakes A dC dI cB cI cJ cZ a_this a_columnsOf a_due a_colours a_rowsOf a_clashesOf v_columnCount v_neededCount v_rowCount v_columnsOf out) args s 0 0 A) (F0 m 43 ls [])
abbrev g_X2_lastRowTakes_0 (p : Program) (l : Launch) (e : Env) (s : State) (m : MethodId) (args : Array Value) (below : List Frame) (meth : Method) (c : Code) (A : Nat → Prop) (dC : Nat → ClassId) (dI : Nat → Nat → Nat) (cB cI cJ cZ : ClassId) (a_this a_columnsOf a_due a_colours a_rowsOf a_clashesOf : Nat) (v_columnCount : Int32) (v_neededCount : Int32) (v_rowCount : Int32) (v_columnsOf : (Nat → Int32)) (out : Int32 × Unit) (k : Int32 → Option (Int32 × Unit)) : Prop := ∀ (x1 : Int32), k x1 = some out → ∀ (H : Heap) (locs : List Loc), va_P (dC, dI) vwCl (ws_X2_lastRowTakes cB cI cJ cZ a_this a_columnsOf a_due a_colours a_rowsOf a_clashesOf v_columnCount v_neededCount v_rowCount v_columnsOf) H → va_D A (ws_X2_lastRowTakes cB cI cJ cZ a_this a_columnsOf a_due a_colours a_rowsOf a_clashesOf v_columnCount v_neededCount v_rowCount v_columnsOf) → va_S A s.heap H locs → ∀ (ls : Array Slot), lv_has ls 3 [(0, .ref a_this), (1, .int x1)] → W p l e (headSpec wsX2_lastRowTakes rm_X2_lastRowTakes).room s m args below meth c H locs 0 0 (MQ below (qc_X2_lastRowTakes A dC dI cB cI cJ cZ a_this a_columnsOf a_due a_colours a_rowsOf a_clashesOf v_columnCount v_neededCount v_rowCount v_columnsOf out) args s 0 0 A) (F0 m 0 ls [])
set_option maxHeartbeats 4000000 in
set_option maxRecDepth 100000 in
theorem w_X2_lastRowTakes_44 {p : Program} {l : Launch} {e : Env} {s : State} {m : MethodId} {args : Array Value} {below : List Frame} {meth : Method} {c : Code} {A : Nat → Prop} {dC : Nat → ClassId} {dI : Nat → Nat → Nat} {cB cI cJ cZ : ClassId} {a_this a_columnsOf a_due a_colours a_rowsOf a_clashesOf : Nat} {v_columnCount : Int32} {v_neededCount : Int32} {v_rowCount : Int32} {v_columnsOf : (Nat → Int32)} {out : Int32 × Unit} (C0 : Cx RX2 cX2_lastRowTakes (some .boolean) 3 wsX2_lastRowTakes p s m args meth c A) (hK : va_K (dC, dI) vwCl (tysG cB cI cJ cZ) s)  : g_X2_lastRowTakes_44 p l e s m args below meth c A dC dI cB cI cJ cZ a_this a_columnsOf a_due a_colours a_rowsOf a_clashesOf v_columnCount v_neededCount v_rowCount v_columnsOf out (f_X2_lastRowTakes_44 v_rowCount v_columnsOf ) := by
  obtain ⟨hx, hb, hr, hml, hown, hts, hlocks, hA⟩ := id C0
  intro y0 hf H locs hP hD hS ls hl
  replace hf : ((if ¬ (y0 = 0 ∨ y0 = 1) then none else
  some ((y0, ()))) : Option (Int32 × Unit)) = some out := hf
  obtain ⟨h_1, hf⟩ := gd_ck hf
  have h9 := Option.some.inj hf
  have h8 := congrArg Prod.fst h9
  have h7 := congrArg Prod.snd h9
  exact W.zret (v := y0) hx hb hr (gd_z h_1) (fun t ht hW => ⟨⟨y0, (), rfl, ⟨h8, h7⟩, by rw [ht]; exact hP, va_K.moved hW.alike hK, hD⟩, hS.F ht⟩) hS.2.2 dX2_lastRowTakes_44
set_option maxHeartbeats 4000000 in
set_option maxRecDepth 100000 in
theorem w_X2_lastRowTakes_43 {p : Program} {l : Launch} {e : Env} {s : State} {m : MethodId} {args : Array Value} {below : List Frame} {meth : Method} {c : Code} {A : Nat → Prop} {dC : Nat → ClassId} {dI : Nat → Nat → Nat} {cB cI cJ cZ : ClassId} {a_this a_columnsOf a_due a_colours a_rowsOf a_clashesOf : Nat} {v_columnCount : Int32} {v_neededCount : Int32} {v_rowCount : Int32} {v_columnsOf : (Nat → Int32)} {out : Int32 × Unit} (C0 : Cx RX2 cX2_lastRowTakes (some .boolean) 3 wsX2_lastRowTakes p s m args meth c A) (hK : va_K (dC, dI) vwCl (tysG cB cI cJ cZ) s)  : g_X2_lastRowTakes_43 p l e s m args below meth c A dC dI cB cI cJ cZ a_this a_columnsOf a_due a_colours a_rowsOf a_clashesOf v_columnCount v_neededCount v_rowCount v_columnsOf out (f_X2_lastRowTakes_43 v_rowCount v_columnsOf ) := by
  obtain ⟨hx, hb, hr, hml, hown, hts, hlocks, hA⟩ := id C0
  intro _ hf H locs hP hD hS ls hl
  replace hf : ((f_X2_lastRowTakes_44 v_rowCount v_columnsOf (0 : Int32)) : Option (Int32 × Unit)) = some out := hf
  refine lv_iconst (v := 0) hx hb dX2_lastRowTakes_43 (by decide) ?_
  exact w_X2_lastRowTakes_44 C0 hK (0 : Int32) hf _ _ hP hD hS ls (lv_sub hl [] rfl)
set_option maxHeartbeats 4000000 in
set_option maxRecDepth 100000 in
theorem w_X2_lastRowTakes_0 {p : Program} {l : Launch} {e : Env} {s : State} {m : MethodId} {args : Array Value} {below : List Frame} {meth : Method} {c : Code} {A : Nat → Prop} {dC : Nat → ClassId} {dI : Nat → Nat → Nat} {cB cI cJ cZ : ClassId} {a_this a_columnsOf a_due a_colours a_rowsOf a_clashesOf : Nat} {v_columnCount : Int32} {v_neededCount : Int32} {v_rowCount : Int32} {v_columnsOf : (Nat → Int32)} {out : Int32 × Unit} (C0 : Cx RX2 cX2_lastRowTakes (some .boolean) 3 wsX2_lastRowTakes p s m args meth c A) (hK : va_K (dC, dI) vwCl (tysG cB cI cJ cZ) s)  : g_X2_lastRowTakes_0 p l e s m args below meth c A dC dI cB cI cJ cZ a_this a_columnsOf a_due a_colours a_rowsOf a_clashesOf v_columnCount v_neededCount v_rowCount v_columnsOf out (f_X2_lastRowTakes v_rowCount v_columnsOf ) := by
  obtain ⟨hx, hb, hr, hml, hown, hts, hlocks, hA⟩ := id C0
  intro x1 hf H locs hP hD hS ls hl
  replace hf : ((if (1 : Int32) ≤ v_rowCount then
  (if ((v_rowCount - (1 : Int32)) < 0 ∨ 60 ≤ Int32.toNatClampNeg (v_rowCount - (1 : Int32))) then none else
  if (((v_columnsOf (Int32.toNatClampNeg (v_rowCount - (1 : Int32)))) >>> (x1 &&& 31)) &&& (1 : Int32)) = 0 then
  ((f_J6_bitCount_0f7a4 (v_columnsOf (Int32.toNatClampNeg (v_rowCount - (1 : Int32))))).bind (fun o_5 =>
  if (8 : Int32) ≤ o_5.1 then
  (f_X2_lastRowTakes_43 v_rowCount v_columnsOf )
  else
  (f_X2_lastRowTakes_44 v_rowCount v_columnsOf (1 : Int32))))
  else
  (f_X2_lastRowTakes_43 v_rowCount v_columnsOf ))
  else
  (some (((0 : Int32), ())))) : Option (Int32 × Unit)) = some out := hf
  refine lv_aload_n hx hb dX2_lastRowTakes_0 rfl (lv_at hl 0 rfl) ?_
  refine va_get (D := (dC, dI)) (ci := 3) (v := .int v_rowCount) (C := RX2) (T := TX2) (N := 8) hx hb hts in_X2_lastRowTakes_X2 hown hK hP 0 rfl rfl 7 (by decide) (hts (.fieldLink RX2 36 "LinkedCovers$Table" "rowCount" "I") lk_X2_lastRowTakes_f36) (fun _ h9 => h9) rfl dX2_lastRowTakes_1 ?_
  refine lv_iconst (v := 1) hx hb dX2_lastRowTakes_4 (by decide) ?_
  refine lv_icmp_ge (tgt := 10) hx hb dX2_lastRowTakes_5 (by decide) (fun c_2 => ?_) (fun c_2 => ?_)
  · replace hf := (if_pos c_2).symm.trans hf
    refine lv_aload_n hx hb dX2_lastRowTakes_10 rfl (lv_at hl 0 rfl) ?_
    refine va_get (D := (dC, dI)) (ci := 3) (v := .ref a_columnsOf) (C := RX2) (T := TX2) (N := 8) hx hb hts in_X2_lastRowTakes_X2 hown hK hP 0 rfl rfl 3 (by decide) (hts (.fieldLink RX2 9 "LinkedCovers$Table" "columnsOf" "[I") lk_X2_lastRowTakes_f9) (fun _ h9 => h9) rfl dX2_lastRowTakes_11 ?_
    refine lv_aload_n hx hb dX2_lastRowTakes_14 rfl (lv_at hl 0 rfl) ?_
    refine va_get (D := (dC, dI)) (ci := 3) (v := .int v_rowCount) (C := RX2) (T := TX2) (N := 8) hx hb hts in_X2_lastRowTakes_X2 hown hK hP 0 rfl rfl 7 (by decide) (hts (.fieldLink RX2 36 "LinkedCovers$Table" "rowCount" "I") lk_X2_lastRowTakes_f36) (fun _ h9 => h9) rfl dX2_lastRowTakes_15 ?_
    refine lv_iconst (v := 1) hx hb dX2_lastRowTakes_18 (by decide) ?_
    refine lv_isub hx hb dX2_lastRowTakes_19 ?_
    obtain ⟨h_3, hf⟩ := gd_ck hf
    refine va_iald hx hb hK hP 1 1 rfl rfl h_3 dX2_lastRowTakes_20 ?_
    refine lv_istore_n (lv' := [(2, .int (v_columnsOf (Int32.toNatClampNeg (v_rowCount - (1 : Int32))))), (0, .ref a_this), (1, .int x1)]) hx hb dX2_lastRowTakes_21 rfl hl (by decide) rfl (fun ls hl => ?_)
    refine lv_iload_n hx hb dX2_lastRowTakes_22 rfl (lv_at hl 0 rfl) ?_
    refine lv_iload_n hx hb dX2_lastRowTakes_23 rfl (lv_at hl 2 rfl) ?_
    refine lv_ishr hx hb dX2_lastRowTakes_24 ?_
    refine lv_iconst (v := 1) hx hb dX2_lastRowTakes_25 (by decide) ?_
    refine lv_iand hx hb dX2_lastRowTakes_26 ?_
    refine lv_if_ne (tgt := 43) hx hb dX2_lastRowTakes_27 (by decide) (fun c_4 => ?_) (fun c_4 => ?_)
    · replace hf := (if_neg c_4).symm.trans hf
      exact w_X2_lastRowTakes_43 C0 hK () hf _ _ hP hD hS ls (lv_sub hl [] rfl)
    · replace hf := (if_pos c_4).symm.trans hf
      refine lv_iload_n hx hb dX2_lastRowTakes_30 rfl (lv_at hl 0 rfl) ?_
      obtain ⟨o_5, ho_5, hf⟩ := gd_bd hf
      have hPc := hP.sub (ws' := ws_J6_bitCount_0f7a4 cB cI cJ cZ  ) [] rfl
      have hDc := hD.sub (ws' := ws_J6_bitCount_0f7a4 cB cI cJ cZ  ) [] (by decide) rfl
      have hFc := va_free (wc := ws_J6_bitCount_0f7a4 cB cI cJ cZ  ) hD hS hA [] rfl
      refine va_calli (va_runS (As := [.int (v_columnsOf (Int32.toNatClampNeg (v_rowCount - (1 : Int32))))]) (rest := []) ⟨hx, hb, hml, hown, hts⟩ (c_J6_bitCount_0f7a4 l dC dI cB cI cJ cZ H.size (v_columnsOf (Int32.toNatClampNeg (v_rowCount - (1 : Int32)))) o_5 ho_5) (va_cwS 1 hts gX2_lastRowTakes_J6_bitCount_0f7a4 rfl rfl rfl nd_J6_bitCount_0f7a4 ⟨Nat.le_of_ble_eq_true rfl, Nat.le_of_ble_eq_true rfl⟩) ⟨fun a U g mk q => by obtain ⟨q0, q1, qP, qK, qD⟩ := q; exact ⟨q0, q1, qP, va_K.moved (u := U) (U := U.calling g mk a) (Vm.Alike.refl U.vm) qK, qD⟩, fun U hU hW => ⟨rfl, by rw [hU], by rw [hU]; exact hPc, va_K.moved hW.alike hK, hDc.weaken (fun _ _ _ _ => trivial)⟩⟩ rfl rfl hl.1 rfl (lv_room (Nat.le_of_ble_eq_true rfl)) dX2_lastRowTakes_31 ⟨Nat.le_of_ble_eq_true rfl, Nat.le_of_ble_eq_true rfl⟩) hS (fun q _ h => hFc q h) hFc (fun r_5 u_5 t H1 locs ht hvm hw hB hz1 hk1 hS => ?_)
      obtain ⟨rfl, rfl⟩ := hw
      obtain ⟨hP1, hK1, hD1⟩ := hB
      rw [ht] at hP1
      obtain ⟨hP, hD⟩ := va_join (wr := [(a_this, .inr (3, [.int v_columnCount, .int v_neededCount, .ref a_due, .ref a_columnsOf, .ref a_colours, .ref a_rowsOf, .ref a_clashesOf, .int v_rowCount])), (a_columnsOf, .inl (cI, 60, .inl v_columnsOf))]) (w1 := ws_J6_bitCount_0f7a4 cB cI cJ cZ  ) hP hD [] [0, 1] rfl rfl (by decide) (by decide) hk1 hFc hP1 hD1
      generalize H1 = H at hP hS ⊢
      have hP : va_P (dC, dI) vwCl (ws_X2_lastRowTakes cB cI cJ cZ a_this a_columnsOf a_due a_colours a_rowsOf a_clashesOf v_columnCount v_neededCount v_rowCount v_columnsOf) H := hP.sub [0, 1] rfl
      have hD : va_D A (ws_X2_lastRowTakes cB cI cJ cZ a_this a_columnsOf a_due a_colours a_rowsOf a_clashesOf v_columnCount v_neededCount v_rowCount v_columnsOf) := hD.sub [0, 1] (by decide) rfl
      refine lv_bipush (v := 8) hx hb dX2_lastRowTakes_34 (by decide) ?_
      refine lv_icmp_ge (tgt := 43) hx hb dX2_lastRowTakes_36 (by decide) (fun c_6 => ?_) (fun c_6 => ?_)
      · replace hf := (if_pos c_6).symm.trans hf
        exact w_X2_lastRowTakes_43 C0 hK () hf _ _ hP hD hS ls (lv_sub hl [] rfl)
      · replace hf := (if_neg c_6).symm.trans hf
        refine lv_iconst (v := 1) hx hb dX2_lastRowTakes_39 (by decide) ?_
        refine lv_goto (tgt := 44) hx hb dX2_lastRowTakes_40 (by decide) ?_
        exact w_X2_lastRowTakes_44 C0 hK (1 : Int32) hf _ _ hP hD hS ls (lv_sub hl [] rfl)
  · replace hf := (if_neg c_2).symm.trans hf
    refine lv_iconst (v := 0) hx hb dX2_lastRowTakes_8 (by decide) ?_
    have h9 := Option.some.inj hf
    have h8 := congrArg Prod.fst h9
    have h7 := congrArg Prod.snd h9
    exact W.zret (v := (0 : Int32)) hx hb hr rfl (fun t ht hW => ⟨⟨(0 : Int32), (), rfl, ⟨h8, h7⟩, by rw [ht]; exact hP, va_K.moved hW.alike hK, hD⟩, hS.F ht⟩) hS.2.2 dX2_lastRowTakes_9
theorem nd_X2_lastRowTakes : yX2_lastRowTakes.cls ≠ "java/lang/invoke/MethodHandle" ∧ yX2_lastRowTakes.cls ≠ "java/lang/invoke/VarHandle" ∧ (parseMethodDescriptor yX2_lastRowTakes.desc).map (fun d => d.parameters.length) = some 1 := by decide +kernel
set_option maxHeartbeats 4000000 in
set_option maxRecDepth 100000 in
theorem c_X2_lastRowTakes (l : Launch) (dC : Nat → ClassId) (dI : Nat → Nat → Nat) (cB cI cJ cZ : ClassId) (a_this a_columnsOf a_due a_colours a_rowsOf a_clashesOf : Nat) (sz : Nat) (v_columnCount : Int32) (v_neededCount : Int32) (v_rowCount : Int32) (v_columnsOf : (Nat → Int32)) (x1 : Int32) (out : Int32 × Unit) (hf : f_X2_lastRowTakes v_rowCount v_columnsOf x1 = some out) : Met l yX2_lastRowTakes wsX2_lastRowTakes rm_X2_lastRowTakes (va_Pc [.ref a_this, .int x1] (fun U => U.heap.size = sz ∧ va_P (dC, dI) vwCl (ws_X2_lastRowTakes cB cI cJ cZ a_this a_columnsOf a_due a_colours a_rowsOf a_clashesOf v_columnCount v_neededCount v_rowCount v_columnsOf) U.heap ∧ va_K (dC, dI) vwCl (tysG cB cI cJ cZ) U ∧ va_D (fun _ => True) (ws_X2_lastRowTakes cB cI cJ cZ a_this a_columnsOf a_due a_colours a_rowsOf a_clashesOf v_columnCount v_neededCount v_rowCount v_columnsOf))) (qc_X2_lastRowTakes (va_A (ws_X2_lastRowTakes cB cI cJ cZ a_this a_columnsOf a_due a_colours a_rowsOf a_clashesOf v_columnCount v_neededCount v_rowCount v_columnsOf) sz) dC dI cB cI cJ cZ a_this a_columnsOf a_due a_colours a_rowsOf a_clashesOf v_columnCount v_neededCount v_rowCount v_columnsOf out) 0 0 (va_A (ws_X2_lastRowTakes cB cI cJ cZ a_this a_columnsOf a_due a_colours a_rowsOf a_clashesOf v_columnCount v_neededCount v_rowCount v_columnsOf) sz) := by
  refine Met.ofW (cc := cX2_lastRowTakes) (maxL := 3) (ret := (some .boolean)) (by decide) rfl ?_
  intro p e s m args below meth c s₁ B hml hv
  obtain ⟨rfl, hsz, hP, hK, hD0⟩ := hv
  subst hsz
  have hD := hD0.self (sz := s.heap.size)
  generalize hAe : va_A (ws_X2_lastRowTakes cB cI cJ cZ a_this a_columnsOf a_due a_colours a_rowsOf a_clashesOf v_columnCount v_neededCount v_rowCount v_columnsOf) s.heap.size = A at hD ⊢
  have hA : ∀ q : Nat, s.heap.size ≤ q → A q := fun q h => by rw [← hAe]; exact Or.inr h
  have hl := lv_entry ([.ref a_this, .int x1]) (n := 3) (Nat.le_of_ble_eq_true rfl)
  rw [lg_entry_eq]
  generalize (lg_sl ([.ref a_this, .int x1]) ++ List.replicate (3 - (lg_sl ([.ref a_this, .int x1])).length) Slot.unset).toArray = ls at hl ⊢
  have hl : lv_has ls 3 [(0, .ref a_this), (1, .int x1)] := hl
  exact w_X2_lastRowTakes_0 ⟨B.exec, B.bytes, B.returns, hml, findClass_of_methodNamed B.named, atoms_spec (ws := wsX2_lastRowTakes) B.pre, B.notSynchronized, hA⟩ hK x1 hf _ _ hP hD va_S.rf ls (lv_sub hl [0, 1] rfl)
-- X2.markClashes(III)V: 57 instructions
theorem in_X2_markClashes_X2 : ∀ w ∈ wsX20, w ∈ wsX2_markClashes := by decide +kernel
abbrev ws_X2_markClashes (cB cI cJ cZ : ClassId) (a_this a_colours a_rowsOf a_clashesOf a_due a_columnsOf : Nat) (v_columnCount : Int32) (v_neededCount : Int32) (v_rowCount : Int32) (v_colours : (Nat → Int32)) (v_rowsOf : (Nat → Int64)) (v_clashesOf : (Nat → Int64)) : va_W := [(a_this, .inr (3, [.int v_columnCount, .int v_neededCount, .ref a_due, .ref a_columnsOf, .ref a_colours, .ref a_rowsOf, .ref a_clashesOf, .int v_rowCount])), (a_colours, .inl (cB, 1440, .inl v_colours)), (a_rowsOf, .inl (cJ, 24, .inr (.inl v_rowsOf))), (a_clashesOf, .inl (cJ, 60, .inr (.inl v_clashesOf)))]
abbrev rm_X2_markClashes : Room := { frames := 0, cells := 0, slots := 0, locals := 0 }
theorem lk_X2_markClashes_f23 : Cond.fieldLink RX2 23 "LinkedCovers$Table" "clashesOf" "[J" ∈ wsX2_markClashes := by decide +kernel
theorem lk_X2_markClashes_f15 : Cond.fieldLink RX2 15 "LinkedCovers$Table" "colours" "[B" ∈ wsX2_markClashes := by decide +kernel
theorem lk_X2_markClashes_f19 : Cond.fieldLink RX2 19 "LinkedCovers$Table" "rowsOf" "[J" ∈ wsX2_markClashes := by decide +kernel
def f_X2_markClashes_83 (v_colours : (Nat → Int32)) (v_rowsOf : (Nat → Int64)) (k_3 : (Nat → Int64) → Int32 → Int32 → Int32 → Int32 → Option ((Nat → Int64))) (v_clashesOf : (Nat → Int64)) (x1 : Int32) (x2 : Int32) (x3 : Int32) (x4 : Int32) : Option ((Nat → Int64)) :=
  k_3 v_clashesOf x1 x2 x3 (x4 + 1)
def f_X2_markClashes_57 (v_colours : (Nat → Int32)) (v_rowsOf : (Nat → Int64)) (k_3 : (Nat → Int64) → Int32 → Int32 → Int32 → Int32 → Option ((Nat → Int64))) (v_clashesOf : (Nat → Int64)) (x1 : Int32) (x2 : Int32) (x3 : Int32) (x4 : Int32) : Option ((Nat → Int64)) :=
  if (x1 < 0 ∨ 60 ≤ Int32.toNatClampNeg x1) then none else
  if (x1 < 0 ∨ 60 ≤ Int32.toNatClampNeg x1) then none else
  if (x4 < 0 ∨ 60 ≤ Int32.toNatClampNeg x4) then none else
  if (x4 < 0 ∨ 60 ≤ Int32.toNatClampNeg x4) then none else
  f_X2_markClashes_83 v_colours v_rowsOf k_3 (vp_updL (vp_updL v_clashesOf (Int32.toNatClampNeg x1) ((v_clashesOf (Int32.toNatClampNeg x1)) ||| ((1 : Int64) <<< (Int32.toInt64 x4 &&& 63)))) (Int32.toNatClampNeg x4) (((vp_updL v_clashesOf (Int32.toNatClampNeg x1) ((v_clashesOf (Int32.toNatClampNeg x1)) ||| ((1 : Int64) <<< (Int32.toInt64 x4 &&& 63)))) (Int32.toNatClampNeg x4)) ||| ((1 : Int64) <<< (Int32.toInt64 x1 &&& 63)))) x1 x2 x3 x4
def f_X2_markClashes_30 (v_colours : (Nat → Int32)) (v_rowsOf : (Nat → Int64)) (k_3 : (Nat → Int64) → Int32 → Int32 → Int32 → Int32 → Option ((Nat → Int64))) (v_clashesOf : (Nat → Int64)) (x1 : Int32) (x2 : Int32) (x3 : Int32) (x4 : Int32) (y0 : Int32) : Option ((Nat → Int64)) :=
  if y0 = 0 then
  (f_X2_markClashes_83 v_colours v_rowsOf k_3 v_clashesOf x1 x2 x3 x4)
  else
  (if x3 = 0 then
  (f_X2_markClashes_57 v_colours v_rowsOf k_3 v_clashesOf x1 x2 x3 x4)
  else
  (if (((x4 * (24 : Int32)) + x2) < 0 ∨ 1440 ≤ Int32.toNatClampNeg ((x4 * (24 : Int32)) + x2)) then none else
  if x3 = (v_colours (Int32.toNatClampNeg ((x4 * (24 : Int32)) + x2))) then
  (f_X2_markClashes_83 v_colours v_rowsOf k_3 v_clashesOf x1 x2 x3 x4)
  else
  (f_X2_markClashes_57 v_colours v_rowsOf k_3 v_clashesOf x1 x2 x3 x4)))
def f_X2_markClashes_3 (v_colours : (Nat → Int32)) (v_rowsOf : (Nat → Int64))  : Nat → (Nat → Int64) → Int32 → Int32 → Int32 → Int32 → Option ((Nat → Int64))
  | 0 => fun _ _ _ _ _ => none
  | n + 1 => fun v_clashesOf x1 x2 x3 x4 => if x1 ≤ x4 then
  (some (v_clashesOf))
  else
  (if (x2 < 0 ∨ 24 ≤ Int32.toNatClampNeg x2) then none else
  if (lg_cmp (((v_rowsOf (Int32.toNatClampNeg x2)) >>> (Int32.toInt64 x4 &&& 63)) &&& (1 : Int64)) (0 : Int64)) = 0 then
  (f_X2_markClashes_30 v_colours v_rowsOf (f_X2_markClashes_3 v_colours v_rowsOf n) v_clashesOf x1 x2 x3 x4 (0 : Int32))
  else
  (f_X2_markClashes_30 v_colours v_rowsOf (f_X2_markClashes_3 v_colours v_rowsOf n) v_clashesOf x1 x2 x3 x4 (1 : Int32)))
def f_X2_markClashes (v_colours : (Nat → Int32)) (v_rowsOf : (Nat → Int64))  (v_clashesOf : (Nat → Int64)) (x1 : Int32) (x2 : Int32) (x3 : Int32) : Option ((Nat → Int64)) :=
  f_X2_markClashes_3 v_colours v_rowsOf 1000000 v_clashesOf x1 x2 x3 (0 : Int32)
abbrev qc_X2_markClashes (A : Nat → Prop) (dC : Nat → ClassId) (dI : Nat → Nat → Nat) (cB cI cJ cZ : ClassId) (a_this a_colours a_rowsOf a_clashesOf a_due a_columnsOf : Nat) (v_columnCount : Int32) (v_neededCount : Int32) (v_rowCount : Int32) (v_colours : (Nat → Int32)) (v_rowsOf : (Nat → Int64)) (out : (Nat → Int64)) : Array Value → State → Outcome → State → Prop := va_Qv (fun u : (Nat → Int64) => u = out) (fun (u : (Nat → Int64)) (t : State) => va_P (dC, dI) vwCl (ws_X2_markClashes cB cI cJ cZ a_this a_colours a_rowsOf a_clashesOf a_due a_columnsOf v_columnCount v_neededCount v_rowCount v_colours v_rowsOf u) t.heap ∧ va_K (dC, dI) vwCl (tysG cB cI cJ cZ) t ∧ va_D A (ws_X2_markClashes cB cI cJ cZ a_this a_colours a_rowsOf a_clashesOf a_due a_columnsOf v_columnCount v_neededCount v_rowCount v_colours v_rowsOf u)) A
abbrev g_X2_markClashes_83 (p : Program) (l : Launch) (e : Env) (s : State) (m : MethodId) (args : Array Value) (below : List Frame) (meth : Method) (c : Code) (A : Nat → Prop) (dC : Nat → ClassId) (dI : Nat → Nat → Nat) (cB cI cJ cZ : ClassId) (a_this a_colours a_rowsOf a_clashesOf a_due a_columnsOf : Nat) (v_columnCount : Int32) (v_neededCount : Int32) (v_rowCount : Int32) (v_colours : (Nat → Int32)) (v_rowsOf : (Nat → Int64)) (out : (Nat → Int64)) (k : (Nat → Int64) → Int32 → Int32 → Int32 → Int32 → Option ((Nat → Int64))) : Prop := ∀ (v_clashesOf : (Nat → Int64)) (x1 : Int32) (x2 : Int32) (x3 : Int32) (x4 : Int32), k v_clashesOf x1 x2 x3 x4 = some out → ∀ (H : Heap) (locs : List Loc), va_P (dC, dI) vwCl (ws_X2_markClashes cB cI cJ cZ a_this a_colours a_rowsOf a_clashesOf a_due a_columnsOf v_columnCount v_neededCount v_rowCount v_colours v_rowsOf v_clashesOf) H → va_D A (ws_X2_markClashes cB cI cJ cZ a_this a_colours a_rowsOf a_clashesOf a_due a_columnsOf v_columnCount v_neededCount v_rowCount v_colours v_rowsOf v_clashesOf) → va_S A s.heap H locs → ∀ (ls : Array Slot), lv_has ls 6 [(0, .ref a_this), (1, .int x1), (2, .int x2), (3, .int x3), (4, .int x4)] → W p l e (headSpec wsX2_markClashes rm_X2_markClashes).room s m args below meth c H locs 0 0 (MQ below (qc_X2_markClashes A dC dI cB cI cJ cZ a_this a_colours a_rowsOf a_clashesOf a_due a_columnsOf v_columnCount v_neededCount v_rowCount v_colours v_rowsOf out) args s 0 0 A) (F0 m 83 ls [])
abbrev g_X2_markClashes_57 (p : Program) (l : Launch) (e : Env) (s : State) (m : MethodId) (args : Array Value) (below : List Frame) (meth : Method) (c : Code) (A : Nat → Prop) (dC : Nat → ClassId) (dI : Nat → Nat → Nat) (cB cI cJ cZ : ClassId) (a_this a_colours a_rowsOf a_clashesOf a_due a_columnsOf : Nat) (v_columnCount : Int32) (v_neededCount : Int32) (v_rowCount : Int32) (v_colours : (Nat → Int32)) (v_rowsOf : (Nat → Int64)) (out : (Nat → Int64)) (k : (Nat → Int64) → Int32 → Int32 → Int32 → Int32 → Option ((Nat → Int64))) : Prop := ∀ (v_clashesOf : (Nat → Int64)) (x1 : Int32) (x2 : Int32) (x3 : Int32) (x4 : Int32), k v_clashesOf x1 x2 x3 x4 = some out → ∀ (H : Heap) (locs : List Loc), va_P (dC, dI) vwCl (ws_X2_markClashes cB cI cJ cZ a_this a_colours a_rowsOf a_clashesOf a_due a_columnsOf v_columnCount v_neededCount v_rowCount v_colours v_rowsOf v_clashesOf) H → va_D A (ws_X2_markClashes cB cI cJ cZ a_this a_colours a_rowsOf a_clashesOf a_due a_columnsOf v_columnCount v_neededCount v_rowCount v_colours v_rowsOf v_clashesOf) → va_S A s.heap H locs → ∀ (ls : Array Slot), lv_has ls 6 [(0, .ref a_this), (1, .int x1), (2, .int x2), (3, .int x3), (4, .int x4)] → W p l e (headSpec wsX2_markClashes rm_X2_markClashes).room s m args below meth c H locs 0 0 (MQ below (qc_X2_markClashes A dC dI cB cI cJ cZ a_this a_colours a_rowsOf a_clashesOf a_due a_columnsOf v_columnCount v_neededCount v_rowCount v_colours v_rowsOf out) args s 0 0 A) (F0 m 57 ls [])
abbrev g_X2_markClashes_30 (p : Program) (l : Launch) (e : Env) (s : State) (m : MethodId) (args : Array Value) (below : List Frame) (meth : Method) (c : Code) (A : Nat → Prop) (dC : Nat → ClassId) (dI : Nat → Nat → Nat) (cB cI cJ cZ : ClassId) (a_this a_colours a_rowsOf a_clashesOf a_due a_columnsOf : Nat) (v_columnCount : Int32) (v_neededCount : Int32) (v_rowCount : Int32) (v_colours : (Nat → Int32)) (v_rowsOf : (Nat → Int64)) (out : (Nat → Int64)) (k : (Nat → Int64) → Int32 → Int32 → Int32 → Int32 → Int32 → Option ((Nat → Int64))) : Prop := ∀ (v_clashesOf : (Nat → Int64)) (x1 : Int32) (x2 : Int32) (x3 : Int32) (x4 : Int32) (y0 : Int32), k v_clashesOf x1 x2 x3 x4 y0 = some out → ∀ (H : Heap) (locs : List Loc), va_P (dC, dI) vwCl (ws_X2_markClashes cB cI cJ cZ a_this a_colours a_rowsOf a_clashesOf a_due a_columnsOf v_columnCount v_neededCount v_rowCount v_colours v_rowsOf v_clashesOf) H → va_D A (ws_X2_markClashes cB cI cJ cZ a_this a_colours a_rowsOf a_clashesOf a_due a_columnsOf v_columnCount v_neededCount v_rowCount v_colours v_rowsOf v_clashesOf) → va_S A s.heap H locs → ∀ (ls : Array Slot), lv_has ls 6 [(0, .ref a_this), (1, .int x1), (2, .int x2), (3, .int x3), (4, .int x4)] → W p l e (headSpec wsX2_markClashes rm_X2_markClashes).room s m args below meth c H locs 0 0 (MQ below (qc_X2_markClashes A dC dI cB cI cJ cZ a_this a_colours a_rowsOf a_clashesOf a_due a_columnsOf v_columnCount v_neededCount v_rowCount v_colours v_rowsOf out) args s 0 0 A) (F0 m 30 ls [.int y0])
abbrev g_X2_markClashes_3 (p : Program) (l : Launch) (e : Env) (s : State) (m : MethodId) (args : Array Value) (below : List Frame) (meth : Method) (c : Code) (A : Nat → Prop) (dC : Nat → ClassId) (dI : Nat → Nat → Nat) (cB cI cJ cZ : ClassId) (a_this a_colours a_rowsOf a_clashesOf a_due a_columnsOf : Nat) (v_columnCount : Int32) (v_neededCount : Int32) (v_rowCount : Int32) (v_colours : (Nat → Int32)) (v_rowsOf : (Nat → Int64)) (out : (Nat → Int64)) (k : (Nat → Int64) → Int32 → Int32 → Int32 → Int32 → Option ((Nat → Int64))) : Prop := ∀ (v_clashesOf : (Nat → Int64)) (x1 : Int32) (x2 : Int32) (x3 : Int32) (x4 : Int32), k v_clashesOf x1 x2 x3 x4 = some out → ∀ (H : Heap) (locs : List Loc), va_P (dC, dI) vwCl (ws_X2_markClashes cB cI cJ cZ a_this a_colours a_rowsOf a_clashesOf a_due a_columnsOf v_columnCount v_neededCount v_rowCount v_colours v_rowsOf v_clashesOf) H → va_D A (ws_X2_markClashes cB cI cJ cZ a_this a_colours a_rowsOf a_clashesOf a_due a_columnsOf v_columnCount v_neededCount v_rowCount v_colours v_rowsOf v_clashesOf) → va_S A s.heap H locs → ∀ (ls : Array Slot), lv_has ls 6 [(0, .ref a_this), (1, .int x1), (2, .int x2), (3, .int x3), (4, .int x4)] → W p l e (headSpec wsX2_markClashes rm_X2_markClashes).room s m args below meth c H locs 0 0 (MQ below (qc_X2_markClashes A dC dI cB cI cJ cZ a_this a_colours a_rowsOf a_clashesOf a_due a_columnsOf v_columnCount v_neededCount v_rowCount v_colours v_rowsOf out) args s 0 0 A) (F0 m 3 ls [])
abbrev g_X2_markClashes_0 (p : Program) (l : Launch) (e : Env) (s : State) (m : MethodId) (args : Array Value) (below : List Frame) (meth : Method) (c : Code) (A : Nat → Prop) (dC : Nat → ClassId) (dI : Nat → Nat → Nat) (cB cI cJ cZ : ClassId) (a_this a_colours a_rowsOf a_clashesOf a_due a_columnsOf : Nat) (v_columnCount : Int32) (v_neededCount : Int32) (v_rowCount : Int32) (v_colours : (Nat → Int32)) (v_rowsOf : (Nat → Int64)) (out : (Nat → Int64)) (k : (Nat → Int64) → Int32 → Int32 → Int32 → Option ((Nat → Int64))) : Prop := ∀ (v_clashesOf : (Nat → Int64)) (x1 : Int32) (x2 : Int32) (x3 : Int32), k v_clashesOf x1 x2 x3 = some out → ∀ (H : Heap) (locs : List Loc), va_P (dC, dI) vwCl (ws_X2_markClashes cB cI cJ cZ a_this a_colours a_rowsOf a_clashesOf a_due a_columnsOf v_columnCount v_neededCount v_rowCount v_colours v_rowsOf v_clashesOf) H → va_D A (ws_X2_markClashes cB cI cJ cZ a_this a_colours a_rowsOf a_clashesOf a_due a_columnsOf v_columnCount v_neededCount v_rowCount v_colours v_rowsOf v_clashesOf) → va_S A s.heap H locs → ∀ (ls : Array Slot), lv_has ls 6 [(0, .ref a_this), (1, .int x1), (2, .int x2), (3, .int x3)] → W p l e (headSpec wsX2_markClashes rm_X2_markClashes).room s m args below meth c H locs 0 0 (MQ below (qc_X2_markClashes A dC dI cB cI cJ cZ a_this a_colours a_rowsOf a_clashesOf a_due a_columnsOf v_columnCount v_neededCount v_rowCount v_colours v_rowsOf out) args s 0 0 A) (F0 m 0 ls [])
set_option maxHeartbeats 4000000 in
set_option maxRecDepth 100000 in
theorem w_X2_markClashes_83 {p : Program} {l : Launch} {e : Env} {s : State} {m : MethodId} {args : Array Value} {below : List Frame} {meth : Method} {c : Code} {A : Nat → Prop} {dC : Nat → ClassId} {dI : Nat → Nat → Nat} {cB cI cJ cZ : ClassId} {a_this a_colours a_rowsOf a_clashesOf a_due a_columnsOf : Nat} {v_columnCount : Int32} {v_neededCount : Int32} {v_rowCount : Int32} {v_colours : (Nat → Int32)} {v_rowsOf : (Nat → Int64)} {out : (Nat → Int64)} (C0 : Cx RX2 cX2_markClashes none 6 wsX2_markClashes p s m args meth c A) (hK : va_K (dC, dI) vwCl (tysG cB cI cJ cZ) s) {k_3 : (Nat → Int64) → Int32 → Int32 → Int32 → Int32 → Option ((Nat → Int64))} (hk_3 : g_X2_markClashes_3 p l e s m args below meth c A dC dI cB cI cJ cZ a_this a_colours a_rowsOf a_clashesOf a_due a_columnsOf v_columnCount v_neededCount v_rowCount v_colours v_rowsOf out k_3) : g_X2_markClashes_83 p l e s m args below meth c A dC dI cB cI cJ cZ a_this a_colours a_rowsOf a_clashesOf a_due a_columnsOf v_columnCount v_neededCount v_rowCount v_colours v_rowsOf out (f_X2_markClashes_83 v_colours v_rowsOf k_3) := by
  obtain ⟨hx, hb, hr, hml, hown, hts, hlocks, hA⟩ := id C0
  intro v_clashesOf x1 x2 x3 x4 hf H locs hP hD hS ls hl
  replace hf : ((k_3 v_clashesOf x1 x2 x3 (x4 + 1)) : Option ((Nat → Int64))) = some out := hf
  refine lv_iinc (v := (x4 + 1)) (lv' := [(4, .int (x4 + 1)), (0, .ref a_this), (1, .int x1), (2, .int x2), (3, .int x3)]) hx hb dX2_markClashes_83 hl (k := 4) rfl rfl (by decide) rfl (fun ls hl => ?_)
  refine lv_goto (tgt := 3) hx hb dX2_markClashes_86 (by decide) ?_
  exact hk_3 v_clashesOf x1 x2 x3 (x4 + 1) hf _ _ hP hD hS ls (lv_sub hl [1, 2, 3, 4, 0] rfl)
set_option maxHeartbeats 4000000 in
set_option maxRecDepth 100000 in
theorem w_X2_markClashes_57 {p : Program} {l : Launch} {e : Env} {s : State} {m : MethodId} {args : Array Value} {below : List Frame} {meth : Method} {c : Code} {A : Nat → Prop} {dC : Nat → ClassId} {dI : Nat → Nat → Nat} {cB cI cJ cZ : ClassId} {a_this a_colours a_rowsOf a_clashesOf a_due a_columnsOf : Nat} {v_columnCount : Int32} {v_neededCount : Int32} {v_rowCount : Int32} {v_colours : (Nat → Int32)} {v_rowsOf : (Nat → Int64)} {out : (Nat → Int64)} (C0 : Cx RX2 cX2_markClashes none 6 wsX2_markClashes p s m args meth c A) (hK : va_K (dC, dI) vwCl (tysG cB cI cJ cZ) s) {k_3 : (Nat → Int64) → Int32 → Int32 → Int32 → Int32 → Option ((Nat → Int64))} (hk_3 : g_X2_markClashes_3 p l e s m args below meth c A dC dI cB cI cJ cZ a_this a_colours a_rowsOf a_clashesOf a_due a_columnsOf v_columnCount v_neededCount v_rowCount v_colours v_rowsOf out k_3) : g_X2_markClashes_57 p l e s m args below meth c A dC dI cB cI cJ cZ a_this a_colours a_rowsOf a_clashesOf a_due a_columnsOf v_columnCount v_neededCount v_rowCount v_colours v_rowsOf out (f_X2_markClashes_57 v_colours v_rowsOf k_3) := by
  obtain ⟨hx, hb, hr, hml, hown, hts, hlocks, hA⟩ := id C0
  intro v_clashesOf x1 x2 x3 x4 hf H locs hP hD hS ls hl
  replace hf : ((if (x1 < 0 ∨ 60 ≤ Int32.toNatClampNeg x1) then none else
  if (x1 < 0 ∨ 60 ≤ Int32.toNatClampNeg x1) then none else
  if (x4 < 0 ∨ 60 ≤ Int32.toNatClampNeg x4) then none else
  if (x4 < 0 ∨ 60 ≤ Int32.toNatClampNeg x4) then none else
  f_X2_markClashes_83 v_colours v_rowsOf k_3 (vp_updL (vp_updL v_clashesOf (Int32.toNatClampNeg x1) ((v_clashesOf (Int32.toNatClampNeg x1)) ||| ((1 : Int64) <<< (Int32.toInt64 x4 &&& 63)))) (Int32.toNatClampNeg x4) (((vp_updL v_clashesOf (Int32.toNatClampNeg x1) ((v_clashesOf (Int32.toNatClampNeg x1)) ||| ((1 : Int64) <<< (Int32.toInt64 x4 &&& 63)))) (Int32.toNatClampNeg x4)) ||| ((1 : Int64) <<< (Int32.toInt64 x1 &&& 63)))) x1 x2 x3 x4) : Option ((Nat → Int64))) = some out := hf
  refine lv_aload_n hx hb dX2_markClashes_57 rfl (lv_at hl 0 rfl) ?_
  refine va_get (D := (dC, dI)) (ci := 3) (v := .ref a_clashesOf) (C := RX2) (T := TX2) (N := 8) hx hb hts in_X2_markClashes_X2 hown hK hP 0 rfl rfl 6 (by decide) (hts (.fieldLink RX2 23 "LinkedCovers$Table" "clashesOf" "[J") lk_X2_markClashes_f23) (fun _ h9 => h9) rfl dX2_markClashes_58 ?_
  refine lv_iload_n hx hb dX2_markClashes_61 rfl (lv_at hl 1 rfl) ?_
  refine lv_dup2_11 hx hb dX2_markClashes_62 rfl rfl ?_
  obtain ⟨h_1, hf⟩ := gd_ck hf
  refine va_lald hx hb hK hP 3 2 rfl rfl h_1 dX2_markClashes_63 ?_
  refine lv_lconst (v := 1) hx hb dX2_markClashes_64 (by decide) ?_
  refine lv_iload hx hb dX2_markClashes_65 (lv_at hl 4 rfl) ?_
  refine lv_lshl (v := ((1 : Int64) <<< (Int32.toInt64 x4 &&& 63))) hx hb dX2_markClashes_67 rfl ?_
  refine lv_lor hx hb dX2_markClashes_68 ?_
  obtain ⟨h_2, hf⟩ := gd_ck hf
  refine va_last hx hb hK hP hD hS 3 2 rfl rfl h_2 dX2_markClashes_69 (fun H locs hP hD hS => ?_)
  have hP : va_P (dC, dI) vwCl (ws_X2_markClashes cB cI cJ cZ a_this a_colours a_rowsOf a_clashesOf a_due a_columnsOf v_columnCount v_neededCount v_rowCount v_colours v_rowsOf (vp_updL v_clashesOf (Int32.toNatClampNeg x1) ((v_clashesOf (Int32.toNatClampNeg x1)) ||| ((1 : Int64) <<< (Int32.toInt64 x4 &&& 63))))) H := hP
  have hD : va_D A (ws_X2_markClashes cB cI cJ cZ a_this a_colours a_rowsOf a_clashesOf a_due a_columnsOf v_columnCount v_neededCount v_rowCount v_colours v_rowsOf (vp_updL v_clashesOf (Int32.toNatClampNeg x1) ((v_clashesOf (Int32.toNatClampNeg x1)) ||| ((1 : Int64) <<< (Int32.toInt64 x4 &&& 63))))) := hD
  refine lv_aload_n hx hb dX2_markClashes_70 rfl (lv_at hl 0 rfl) ?_
  refine va_get (D := (dC, dI)) (ci := 3) (v := .ref a_clashesOf) (C := RX2) (T := TX2) (N := 8) hx hb hts in_X2_markClashes_X2 hown hK hP 0 rfl rfl 6 (by decide) (hts (.fieldLink RX2 23 "LinkedCovers$Table" "clashesOf" "[J") lk_X2_markClashes_f23) (fun _ h9 => h9) rfl dX2_markClashes_71 ?_
  refine lv_iload hx hb dX2_markClashes_74 (lv_at hl 4 rfl) ?_
  refine lv_dup2_11 hx hb dX2_markClashes_76 rfl rfl ?_
  obtain ⟨h_3, hf⟩ := gd_ck hf
  refine va_lald hx hb hK hP 3 2 rfl rfl h_3 dX2_markClashes_77 ?_
  refine lv_lconst (v := 1) hx hb dX2_markClashes_78 (by decide) ?_
  refine lv_iload_n hx hb dX2_markClashes_79 rfl (lv_at hl 1 rfl) ?_
  refine lv_lshl (v := ((1 : Int64) <<< (Int32.toInt64 x1 &&& 63))) hx hb dX2_markClashes_80 rfl ?_
  refine lv_lor hx hb dX2_markClashes_81 ?_
  obtain ⟨h_4, hf⟩ := gd_ck hf
  refine va_last hx hb hK hP hD hS 3 2 rfl rfl h_4 dX2_markClashes_82 (fun H locs hP hD hS => ?_)
  have hP : va_P (dC, dI) vwCl (ws_X2_markClashes cB cI cJ cZ a_this a_colours a_rowsOf a_clashesOf a_due a_columnsOf v_columnCount v_neededCount v_rowCount v_colours v_rowsOf (vp_updL (vp_updL v_clashesOf (Int32.toNatClampNeg x1) ((v_clashesOf (Int32.toNatClampNeg x1)) ||| ((1 : Int64) <<< (Int32.toInt64 x4 &&& 63)))) (Int32.toNatClampNeg x4) (((vp_updL v_clashesOf (Int32.toNatClampNeg x1) ((v_clashesOf (Int32.toNatClampNeg x1)) ||| ((1 : Int64) <<< (Int32.toInt64 x4 &&& 63)))) (Int32.toNatClampNeg x4)) ||| ((1 : Int64) <<< (Int32.toInt64 x1 &&& 63))))) H := hP
  have hD : va_D A (ws_X2_markClashes cB cI cJ cZ a_this a_colours a_rowsOf a_clashesOf a_due a_columnsOf v_columnCount v_neededCount v_rowCount v_colours v_rowsOf (vp_updL (vp_updL v_clashesOf (Int32.toNatClampNeg x1) ((v_clashesOf (Int32.toNatClampNeg x1)) ||| ((1 : Int64) <<< (Int32.toInt64 x4 &&& 63)))) (Int32.toNatClampNeg x4) (((vp_updL v_clashesOf (Int32.toNatClampNeg x1) ((v_clashesOf (Int32.toNatClampNeg x1)) ||| ((1 : Int64) <<< (Int32.toInt64 x4 &&& 63)))) (Int32.toNatClampNeg x4)) ||| ((1 : Int64) <<< (Int32.toInt64 x1 &&& 63))))) := hD
  exact w_X2_markClashes_83 C0 hK hk_3 (vp_updL (vp_updL v_clashesOf (Int32.toNatClampNeg x1) ((v_clashesOf (Int32.toNatClampNeg x1)) ||| ((1 : Int64) <<< (Int32.toInt64 x4 &&& 63)))) (Int32.toNatClampNeg x4) (((vp_updL v_clashesOf (Int32.toNatClampNeg x1) ((v_clashesOf (Int32.toNatClampNeg x1)) ||| ((1 : Int64) <<< (Int32.toInt64 x4 &&& 63)))) (Int32.toNatClampNeg x4)) ||| ((1 : Int64) <<< (Int32.toInt64 x1 &&& 63)))) x1 x2 x3 x4 hf _ _ hP hD hS ls (lv_sub hl [0, 1, 2, 3, 4] rfl)
set_option maxHeartbeats 4000000 in
set_option maxRecDepth 100000 in
theorem w_X2_markClashes_30 {p : Program} {l : Launch} {e : Env} {s : State} {m : MethodId} {args : Array Value} {below : List Frame} {meth : Method} {c : Code} {A : Nat → Prop} {dC : Nat → ClassId} {dI : Nat → Nat → Nat} {cB cI cJ cZ : ClassId} {a_this a_colours a_rowsOf a_clashesOf a_due a_columnsOf : Nat} {v_columnCount : Int32} {v_neededCount : Int32} {v_rowCount : Int32} {v_colours : (Nat → Int32)} {v_rowsOf : (Nat → Int64)} {out : (Nat → Int64)} (C0 : Cx RX2 cX2_markClashes none 6 wsX2_markClashes p s m args meth c A) (hK : va_K (dC, dI) vwCl (tysG cB cI cJ cZ) s) {k_3 : (Nat → Int64) → Int32 → Int32 → Int32 → Int32 → Option ((Nat → Int64))} (hk_3 : g_X2_markClashes_3 p l e s m args below meth c A dC dI cB cI cJ cZ a_this a_colours a_rowsOf a_clashesOf a_due a_columnsOf v_columnCount v_neededCount v_rowCount v_colours v_rowsOf out k_3) : g_X2_markClashes_30 p l e s m args below meth c A dC dI cB cI cJ cZ a_this a_colours a_rowsOf a_clashesOf a_due a_columnsOf v_columnCount v_neededCount v_rowCount v_colours v_rowsOf out (f_X2_markClashes_30 v_colours v_rowsOf k_3) := by
  obtain ⟨hx, hb, hr, hml, hown, hts, hlocks, hA⟩ := id C0
  intro v_clashesOf x1 x2 x3 x4 y0 hf H locs hP hD hS ls hl
  replace hf : ((if y0 = 0 then
  (f_X2_markClashes_83 v_colours v_rowsOf k_3 v_clashesOf x1 x2 x3 x4)
  else
  (if x3 = 0 then
  (f_X2_markClashes_57 v_colours v_rowsOf k_3 v_clashesOf x1 x2 x3 x4)
  else
  (if (((x4 * (24 : Int32)) + x2) < 0 ∨ 1440 ≤ Int32.toNatClampNeg ((x4 * (24 : Int32)) + x2)) then none else
  if x3 = (v_colours (Int32.toNatClampNeg ((x4 * (24 : Int32)) + x2))) then
  (f_X2_markClashes_83 v_colours v_rowsOf k_3 v_clashesOf x1 x2 x3 x4)
  else
  (f_X2_markClashes_57 v_colours v_rowsOf k_3 v_clashesOf x1 x2 x3 x4)))) : Option ((Nat → Int64))) = some out := hf
  refine lv_istore (lv' := [(5, .int y0), (0, .ref a_this), (1, .int x1), (2, .int x2), (3, .int x3), (4, .int x4)]) hx hb dX2_markClashes_30 hl (by decide) rfl (fun ls hl => ?_)
  refine lv_iload hx hb dX2_markClashes_32 (lv_at hl 0 rfl) ?_
  refine lv_if_eq (tgt := 83) hx hb dX2_markClashes_34 (by decide) (fun c_5 => ?_) (fun c_5 => ?_)
  · replace hf := (if_pos c_5).symm.trans hf
    exact w_X2_markClashes_83 C0 hK hk_3 v_clashesOf x1 x2 x3 x4 hf _ _ hP hD hS ls (lv_sub hl [1, 2, 3, 4, 5] rfl)
  · replace hf := (if_neg c_5).symm.trans hf
    refine lv_iload_n hx hb dX2_markClashes_37 rfl (lv_at hl 4 rfl) ?_
    refine lv_if_eq (tgt := 57) hx hb dX2_markClashes_38 (by decide) (fun c_6 => ?_) (fun c_6 => ?_)
    · replace hf := (if_pos c_6).symm.trans hf
      exact w_X2_markClashes_57 C0 hK hk_3 v_clashesOf x1 x2 x3 x4 hf _ _ hP hD hS ls (lv_sub hl [1, 2, 3, 4, 5] rfl)
    · replace hf := (if_neg c_6).symm.trans hf
      refine lv_iload_n hx hb dX2_markClashes_41 rfl (lv_at hl 4 rfl) ?_
      refine lv_aload_n hx hb dX2_markClashes_42 rfl (lv_at hl 1 rfl) ?_
      refine va_get (D := (dC, dI)) (ci := 3) (v := .ref a_colours) (C := RX2) (T := TX2) (N := 8) hx hb hts in_X2_markClashes_X2 hown hK hP 0 rfl rfl 4 (by decide) (hts (.fieldLink RX2 15 "LinkedCovers$Table" "colours" "[B") lk_X2_markClashes_f15) (fun _ h9 => h9) rfl dX2_markClashes_43 ?_
      refine lv_iload hx hb dX2_markClashes_46 (lv_at hl 5 rfl) ?_
      refine lv_bipush (v := 24) hx hb dX2_markClashes_48 (by decide) ?_
      refine lv_imul hx hb dX2_markClashes_50 ?_
      refine lv_iload_n hx hb dX2_markClashes_51 rfl (lv_at hl 3 rfl) ?_
      refine lv_iadd hx hb dX2_markClashes_52 ?_
      obtain ⟨h_7, hf⟩ := gd_ck hf
      refine va_bald hx hb hK hP 1 0 rfl rfl h_7 dX2_markClashes_53 ?_
      refine lv_icmp_eq (tgt := 83) hx hb dX2_markClashes_54 (by decide) (fun c_8 => ?_) (fun c_8 => ?_)
      · replace hf := (if_pos c_8).symm.trans hf
        exact w_X2_markClashes_83 C0 hK hk_3 v_clashesOf x1 x2 x3 x4 hf _ _ hP hD hS ls (lv_sub hl [1, 2, 3, 4, 5] rfl)
      · replace hf := (if_neg c_8).symm.trans hf
        exact w_X2_markClashes_57 C0 hK hk_3 v_clashesOf x1 x2 x3 x4 hf _ _ hP hD hS ls (lv_sub hl [1, 2, 3, 4, 5] rfl)
set_option maxHeartbeats 4000000 in
set_option maxRecDepth 100000 in
theorem w_X2_markClashes_3 {p : Program} {l : Launch} {e : Env} {s : State} {m : MethodId} {args : Array Value} {below : List Frame} {meth : Method} {c : Code} {A : Nat → Prop} {dC : Nat → ClassId} {dI : Nat → Nat → Nat} {cB cI cJ cZ : ClassId} {a_this a_colours a_rowsOf a_clashesOf a_due a_columnsOf : Nat} {v_columnCount : Int32} {v_neededCount : Int32} {v_rowCount : Int32} {v_colours : (Nat → Int32)} {v_rowsOf : (Nat → Int64)} {out : (Nat → Int64)} (C0 : Cx RX2 cX2_markClashes none 6 wsX2_markClashes p s m args meth c A) (hK : va_K (dC, dI) vwCl (tysG cB cI cJ cZ) s)  : ∀ n : Nat, g_X2_markClashes_3 p l e s m args below meth c A dC dI cB cI cJ cZ a_this a_colours a_rowsOf a_clashesOf a_due a_columnsOf v_columnCount v_neededCount v_rowCount v_colours v_rowsOf out (f_X2_markClashes_3 v_colours v_rowsOf  n) := by
  obtain ⟨hx, hb, hr, hml, hown, hts, hlocks, hA⟩ := id C0
  intro n
  induction n with
  | zero =>
    intro v_clashesOf x1 x2 x3 x4 hf H locs hP hD hS ls hl
    exact nomatch (show (none : Option ((Nat → Int64))) = some out from hf)
  | succ n ih =>
    intro v_clashesOf x1 x2 x3 x4 hf H locs hP hD hS ls hl
    replace hf : ((if x1 ≤ x4 then
  (some (v_clashesOf))
  else
  (if (x2 < 0 ∨ 24 ≤ Int32.toNatClampNeg x2) then none else
  if (lg_cmp (((v_rowsOf (Int32.toNatClampNeg x2)) >>> (Int32.toInt64 x4 &&& 63)) &&& (1 : Int64)) (0 : Int64)) = 0 then
  (f_X2_markClashes_30 v_colours v_rowsOf (f_X2_markClashes_3 v_colours v_rowsOf n) v_clashesOf x1 x2 x3 x4 (0 : Int32))
  else
  (f_X2_markClashes_30 v_colours v_rowsOf (f_X2_markClashes_3 v_colours v_rowsOf n) v_clashesOf x1 x2 x3 x4 (1 : Int32)))) : Option ((Nat → Int64))) = some out := hf
    refine lv_iload hx hb dX2_markClashes_3 (lv_at hl 4 rfl) ?_
    refine lv_iload_n hx hb dX2_markClashes_5 rfl (lv_at hl 1 rfl) ?_
    refine lv_icmp_ge (tgt := 89) hx hb dX2_markClashes_6 (by decide) (fun c_9 => ?_) (fun c_9 => ?_)
    · replace hf := (if_pos c_9).symm.trans hf
      exact W.vret hx hb hr (fun t ht hW => ⟨⟨v_clashesOf, rfl, Option.some.inj hf, by rw [ht]; exact hP, va_K.moved hW.alike hK, hD⟩, hS.F ht⟩) hS.2.2 dX2_markClashes_89
    · replace hf := (if_neg c_9).symm.trans hf
      refine lv_aload_n hx hb dX2_markClashes_9 rfl (lv_at hl 0 rfl) ?_
      refine va_get (D := (dC, dI)) (ci := 3) (v := .ref a_rowsOf) (C := RX2) (T := TX2) (N := 8) hx hb hts in_X2_markClashes_X2 hown hK hP 0 rfl rfl 5 (by decide) (hts (.fieldLink RX2 19 "LinkedCovers$Table" "rowsOf" "[J") lk_X2_markClashes_f19) (fun _ h9 => h9) rfl dX2_markClashes_10 ?_
      refine lv_iload_n hx hb dX2_markClashes_13 rfl (lv_at hl 2 rfl) ?_
      obtain ⟨h_10, hf⟩ := gd_ck hf
      refine va_lald hx hb hK hP 2 2 rfl rfl h_10 dX2_markClashes_14 ?_
      refine lv_iload hx hb dX2_markClashes_15 (lv_at hl 4 rfl) ?_
      refine lv_lshr (v := ((v_rowsOf (Int32.toNatClampNeg x2)) >>> (Int32.toInt64 x4 &&& 63))) hx hb dX2_markClashes_17 rfl ?_
      refine lv_lconst (v := 1) hx hb dX2_markClashes_18 (by decide) ?_
      refine lv_land hx hb dX2_markClashes_19 ?_
      refine lv_lconst (v := 0) hx hb dX2_markClashes_20 (by decide) ?_
      refine W.lcmp hx hb dX2_markClashes_21 ?_
      refine lv_if_eq (tgt := 29) hx hb dX2_markClashes_22 (by decide) (fun c_11 => ?_) (fun c_11 => ?_)
      · replace hf := (if_pos c_11).symm.trans hf
        refine lv_iconst (v := 0) hx hb dX2_markClashes_29 (by decide) ?_
        exact w_X2_markClashes_30 C0 hK ih v_clashesOf x1 x2 x3 x4 (0 : Int32) hf _ _ hP hD hS ls (lv_sub hl [0, 1, 2, 3, 4] rfl)
      · replace hf := (if_neg c_11).symm.trans hf
        refine lv_iconst (v := 1) hx hb dX2_markClashes_25 (by decide) ?_
        refine lv_goto (tgt := 30) hx hb dX2_markClashes_26 (by decide) ?_
        exact w_X2_markClashes_30 C0 hK ih v_clashesOf x1 x2 x3 x4 (1 : Int32) hf _ _ hP hD hS ls (lv_sub hl [0, 1, 2, 3, 4] rfl)
set_option maxHeartbeats 4000000 in
set_option maxRecDepth 100000 in
theorem w_X2_markClashes_0 {p : Program} {l : Launch} {e : Env} {s : State} {m : MethodId} {args : Array Value} {below : List Frame} {meth : Method} {c : Code} {A : Nat → Prop} {dC : Nat → ClassId} {dI : Nat → Nat → Nat} {cB cI cJ cZ : ClassId} {a_this a_colours a_rowsOf a_clashesOf a_due a_columnsOf : Nat} {v_columnCount : Int32} {v_neededCount : Int32} {v_rowCount : Int32} {v_colours : (Nat → Int32)} {v_rowsOf : (Nat → Int64)} {out : (Nat → Int64)} (C0 : Cx RX2 cX2_markClashes none 6 wsX2_markClashes p s m args meth c A) (hK : va_K (dC, dI) vwCl (tysG cB cI cJ cZ) s)  : g_X2_markClashes_0 p l e s m args below meth c A dC dI cB cI cJ cZ a_this a_colours a_rowsOf a_clashesOf a_due a_columnsOf v_columnCount v_neededCount v_rowCount v_colours v_rowsOf out (f_X2_markClashes v_colours v_rowsOf ) := by
  obtain ⟨hx, hb, hr, hml, hown, hts, hlocks, hA⟩ := id C0
  intro v_clashesOf x1 x2 x3 hf H locs hP hD hS ls hl
  replace hf : ((f_X2_markClashes_3 v_colours v_rowsOf 1000000 v_clashesOf x1 x2 x3 (0 : Int32)) : Option ((Nat → Int64))) = some out := hf
  refine lv_iconst (v := 0) hx hb dX2_markClashes_0 (by decide) ?_
  refine lv_istore (lv' := [(4, .int (0 : Int32)), (0, .ref a_this), (1, .int x1), (2, .int x2), (3, .int x3)]) hx hb dX2_markClashes_1 hl (by decide) rfl (fun ls hl => ?_)
  exact w_X2_markClashes_3 C0 hK 1000000 v_clashesOf x1 x2 x3 (0 : Int32) hf _ _ hP hD hS ls (lv_sub hl [1, 2, 3, 4, 0] rfl)
theorem nd_X2_markClashes : yX2_markClashes.cls ≠ "java/lang/invoke/MethodHandle" ∧ yX2_markClashes.cls ≠ "java/lang/invoke/VarHandle" ∧ (parseMethodDescriptor yX2_markClashes.desc).map (fun d => d.parameters.length) = some 3 := by decide +kernel
set_option maxHeartbeats 4000000 in
set_option maxRecDepth 100000 in
theorem c_X2_markClashes (l : Launch) (dC : Nat → ClassId) (dI : Nat → Nat → Nat) (cB cI cJ cZ : ClassId) (a_this a_colours a_rowsOf a_clashesOf a_due a_columnsOf : Nat) (sz : Nat) (v_columnCount : Int32) (v_neededCount : Int32) (v_rowCount : Int32) (v_colours : (Nat → Int32)) (v_rowsOf : (Nat → Int64)) (v_clashesOf : (Nat → Int64)) (x1 : Int32) (x2 : Int32) (x3 : Int32) (out : (Nat → Int64)) (hf : f_X2_markClashes v_colours v_rowsOf v_clashesOf x1 x2 x3 = some out) : Met l yX2_markClashes wsX2_markClashes rm_X2_markClashes (va_Pc [.ref a_this, .int x1, .int x2, .int x3] (fun U => U.heap.size = sz ∧ va_P (dC, dI) vwCl (ws_X2_markClashes cB cI cJ cZ a_this a_colours a_rowsOf a_clashesOf a_due a_columnsOf v_columnCount v_neededCount v_rowCount v_colours v_rowsOf v_clashesOf) U.heap ∧ va_K (dC, dI) vwCl (tysG cB cI cJ cZ) U ∧ va_D (fun _ => True) (ws_X2_markClashes cB cI cJ cZ a_this a_colours a_rowsOf a_clashesOf a_due a_columnsOf v_columnCount v_neededCount v_rowCount v_colours v_rowsOf v_clashesOf))) (qc_X2_markClashes (va_A (ws_X2_markClashes cB cI cJ cZ a_this a_colours a_rowsOf a_clashesOf a_due a_columnsOf v_columnCount v_neededCount v_rowCount v_colours v_rowsOf v_clashesOf) sz) dC dI cB cI cJ cZ a_this a_colours a_rowsOf a_clashesOf a_due a_columnsOf v_columnCount v_neededCount v_rowCount v_colours v_rowsOf out) 0 0 (va_A (ws_X2_markClashes cB cI cJ cZ a_this a_colours a_rowsOf a_clashesOf a_due a_columnsOf v_columnCount v_neededCount v_rowCount v_colours v_rowsOf v_clashesOf) sz) := by
  refine Met.ofW (cc := cX2_markClashes) (maxL := 6) (ret := none) (by decide) rfl ?_
  intro p e s m args below meth c s₁ B hml hv
  obtain ⟨rfl, hsz, hP, hK, hD0⟩ := hv
  subst hsz
  have hD := hD0.self (sz := s.heap.size)
  generalize hAe : va_A (ws_X2_markClashes cB cI cJ cZ a_this a_colours a_rowsOf a_clashesOf a_due a_columnsOf v_columnCount v_neededCount v_rowCount v_colours v_rowsOf v_clashesOf) s.heap.size = A at hD ⊢
  have hA : ∀ q : Nat, s.heap.size ≤ q → A q := fun q h => by rw [← hAe]; exact Or.inr h
  have hl := lv_entry ([.ref a_this, .int x1, .int x2, .int x3]) (n := 6) (Nat.le_of_ble_eq_true rfl)
  rw [lg_entry_eq]
  generalize (lg_sl ([.ref a_this, .int x1, .int x2, .int x3]) ++ List.replicate (6 - (lg_sl ([.ref a_this, .int x1, .int x2, .int x3])).length) Slot.unset).toArray = ls at hl ⊢
  have hl : lv_has ls 6 [(0, .ref a_this), (1, .int x1), (2, .int x2), (3, .int x3)] := hl
  exact w_X2_markClashes_0 ⟨B.exec, B.bytes, B.returns, hml, findClass_of_methodNamed B.named, atoms_spec (ws := wsX2_markClashes) B.pre, B.notSynchronized, hA⟩ hK v_clashesOf x1 x2 x3 hf _ _ hP hD va_S.rf ls (lv_sub hl [0, 1, 2, 3] rfl)
-- X2.addToLastRow(II)V: 51 instructions
theorem in_X2_addToLastRow_X2 : ∀ w ∈ wsX20, w ∈ wsX2_addToLastRow := by decide +kernel
abbrev ws_X2_addToLastRow (cB cI cJ cZ : ClassId) (a_this a_columnsOf a_colours a_rowsOf a_clashesOf a_due : Nat) (v_columnCount : Int32) (v_neededCount : Int32) (v_rowCount : Int32) (v_columnsOf : (Nat → Int32)) (v_colours : (Nat → Int32)) (v_rowsOf : (Nat → Int64)) (v_clashesOf : (Nat → Int64)) : va_W := [(a_this, .inr (3, [.int v_columnCount, .int v_neededCount, .ref a_due, .ref a_columnsOf, .ref a_colours, .ref a_rowsOf, .ref a_clashesOf, .int v_rowCount])), (a_columnsOf, .inl (cI, 60, .inl v_columnsOf)), (a_colours, .inl (cB, 1440, .inl v_colours)), (a_rowsOf, .inl (cJ, 24, .inr (.inl v_rowsOf))), (a_clashesOf, .inl (cJ, 60, .inr (.inl v_clashesOf)))]
abbrev rm_X2_addToLastRow : Room := { frames := 1, cells := 0, slots := 0, locals := 25 }
theorem lk_X2_addToLastRow_f9 : Cond.fieldLink RX2 9 "LinkedCovers$Table" "columnsOf" "[I" ∈ wsX2_addToLastRow := by decide +kernel
theorem lk_X2_addToLastRow_f19 : Cond.fieldLink RX2 19 "LinkedCovers$Table" "rowsOf" "[J" ∈ wsX2_addToLastRow := by decide +kernel
theorem lk_X2_addToLastRow_f36 : Cond.fieldLink RX2 36 "LinkedCovers$Table" "rowCount" "I" ∈ wsX2_addToLastRow := by decide +kernel
theorem lk_X2_addToLastRow_f15 : Cond.fieldLink RX2 15 "LinkedCovers$Table" "colours" "[B" ∈ wsX2_addToLastRow := by decide +kernel
def f_X2_addToLastRow_17 (v_neededCount : Int32) (v_rowCount : Int32)  (v_columnsOf : (Nat → Int32)) (v_colours : (Nat → Int32)) (v_rowsOf : (Nat → Int64)) (v_clashesOf : (Nat → Int64)) : Option ((Nat → Int32) × (Nat → Int32) × (Nat → Int64) × (Nat → Int64)) :=
  some ((v_columnsOf, v_colours, v_rowsOf, v_clashesOf))
def f_X2_addToLastRow_46 (v_neededCount : Int32) (v_rowCount : Int32)  (v_columnsOf : (Nat → Int32)) (v_colours : (Nat → Int32)) (v_rowsOf : (Nat → Int64)) (v_clashesOf : (Nat → Int64)) (x1 : Int32) (x3 : Int32) : Option ((Nat → Int32) × (Nat → Int32) × (Nat → Int64) × (Nat → Int64)) :=
  if (x3 < 0 ∨ 60 ≤ Int32.toNatClampNeg x3) then none else
  if (x3 < 0 ∨ 60 ≤ Int32.toNatClampNeg x3) then none else
  if (x1 < 0 ∨ 24 ≤ Int32.toNatClampNeg x1) then none else
  if (x1 < 0 ∨ 24 ≤ Int32.toNatClampNeg x1) then none else
  some (((upd v_columnsOf (Int32.toNatClampNeg x3) ((v_columnsOf (Int32.toNatClampNeg x3)) ||| ((1 : Int32) <<< (x1 &&& 31)))), v_colours, (vp_updL v_rowsOf (Int32.toNatClampNeg x1) ((v_rowsOf (Int32.toNatClampNeg x1)) ||| ((1 : Int64) <<< (Int32.toInt64 x3 &&& 63)))), v_clashesOf))
def f_X2_addToLastRow (v_neededCount : Int32) (v_rowCount : Int32)  (v_columnsOf : (Nat → Int32)) (v_colours : (Nat → Int32)) (v_rowsOf : (Nat → Int64)) (v_clashesOf : (Nat → Int64)) (x1 : Int32) (x2 : Int32) : Option ((Nat → Int32) × (Nat → Int32) × (Nat → Int64) × (Nat → Int64)) :=
  if (v_rowCount - (1 : Int32)) < 0 then
  (f_X2_addToLastRow_17 v_neededCount v_rowCount v_columnsOf v_colours v_rowsOf v_clashesOf)
  else
  (if (v_rowCount - (1 : Int32)) < (60 : Int32) then
  ((f_X2_isNeeded v_neededCount x1).bind (fun o_7 =>
  if o_7.1 = 0 then
  ((f_X2_markClashes v_colours v_rowsOf v_clashesOf (v_rowCount - (1 : Int32)) x1 x2).bind (fun o_9 =>
  if ((((v_rowCount - (1 : Int32)) * (24 : Int32)) + x1) < 0 ∨ 1440 ≤ Int32.toNatClampNeg (((v_rowCount - (1 : Int32)) * (24 : Int32)) + x1)) then none else
  f_X2_addToLastRow_46 v_neededCount v_rowCount v_columnsOf (upd v_colours (Int32.toNatClampNeg (((v_rowCount - (1 : Int32)) * (24 : Int32)) + x1)) (vp_nar .byte ((Int32.toInt8 x2).toInt32))) v_rowsOf o_9 x1 (v_rowCount - (1 : Int32))))
  else
  (f_X2_addToLastRow_46 v_neededCount v_rowCount v_columnsOf v_colours v_rowsOf v_clashesOf x1 (v_rowCount - (1 : Int32)))))
  else
  (f_X2_addToLastRow_17 v_neededCount v_rowCount v_columnsOf v_colours v_rowsOf v_clashesOf))
abbrev qc_X2_addToLastRow (A : Nat → Prop) (dC : Nat → ClassId) (dI : Nat → Nat → Nat) (cB cI cJ cZ : ClassId) (a_this a_columnsOf a_colours a_rowsOf a_clashesOf a_due : Nat) (v_columnCount : Int32) (v_neededCount : Int32) (v_rowCount : Int32) (out : (Nat → Int32) × (Nat → Int32) × (Nat → Int64) × (Nat → Int64)) : Array Value → State → Outcome → State → Prop := va_Qv (fun u : (Nat → Int32) × (Nat → Int32) × (Nat → Int64) × (Nat → Int64) => u = out) (fun (u : (Nat → Int32) × (Nat → Int32) × (Nat → Int64) × (Nat → Int64)) (t : State) => va_P (dC, dI) vwCl (ws_X2_addToLastRow cB cI cJ cZ a_this a_columnsOf a_colours a_rowsOf a_clashesOf a_due v_columnCount v_neededCount v_rowCount u.1 u.2.1 u.2.2.1 u.2.2.2) t.heap ∧ va_K (dC, dI) vwCl (tysG cB cI cJ cZ) t ∧ va_D A (ws_X2_addToLastRow cB cI cJ cZ a_this a_columnsOf a_colours a_rowsOf a_clashesOf a_due v_columnCount v_neededCount v_rowCount u.1 u.2.1 u.2.2.1 u.2.2.2)) A
abbrev g_X2_addToLastRow_17 (p : Program) (l : Launch) (e : Env) (s : State) (m : MethodId) (args : Array Value) (below : List Frame) (meth : Method) (c : Code) (A : Nat → Prop) (dC : Nat → ClassId) (dI : Nat → Nat → Nat) (cB cI cJ cZ : ClassId) (a_this a_columnsOf a_colours a_rowsOf a_clashesOf a_due : Nat) (v_columnCount : Int32) (v_neededCount : Int32) (v_rowCount : Int32) (out : (Nat → Int32) × (Nat → Int32) × (Nat → Int64) × (Nat → Int64)) (k : (Nat → Int32) → (Nat → Int32) → (Nat → Int64) → (Nat → Int64) → Option ((Nat → Int32) × (Nat → Int32) × (Nat → Int64) × (Nat → Int64))) : Prop := ∀ (v_columnsOf : (Nat → Int32)) (v_colours : (Nat → Int32)) (v_rowsOf : (Nat → Int64)) (v_clashesOf : (Nat → Int64)), k v_columnsOf v_colours v_rowsOf v_clashesOf = some out → ∀ (H : Heap) (locs : List Loc), va_P (dC, dI) vwCl (ws_X2_addToLastRow cB cI cJ cZ a_this a_columnsOf a_colours a_rowsOf a_clashesOf a_due v_columnCount v_neededCount v_rowCount v_columnsOf v_colours v_rowsOf v_clashesOf) H → va_D A (ws_X2_addToLastRow cB cI cJ cZ a_this a_columnsOf a_colours a_rowsOf a_clashesOf a_due v_columnCount v_neededCount v_rowCount v_columnsOf v_colours v_rowsOf v_clashesOf) → va_S A s.heap H locs → ∀ (ls : Array Slot), lv_has ls 4 [] → W p l e (headSpec wsX2_addToLastRow rm_X2_addToLastRow).room s m args below meth c H locs 0 0 (MQ below (qc_X2_addToLastRow A dC dI cB cI cJ cZ a_this a_columnsOf a_colours a_rowsOf a_clashesOf a_due v_columnCount v_neededCount v_rowCount out) args s 0 0 A) (F0 m 17 ls [])
abbrev g_X2_addToLastRow_46 (p : Program) (l : Launch) (e : Env) (s : State) (m : MethodId) (args : Array Value) (below : List Frame) (meth : Method) (c : Code) (A : Nat → Prop) (dC : Nat → ClassId) (dI : Nat → Nat → Nat) (cB cI cJ cZ : ClassId) (a_this a_columnsOf a_colours a_rowsOf a_clashesOf a_due : Nat) (v_columnCount : Int32) (v_neededCount : Int32) (v_rowCount : Int32) (out : (Nat → Int32) × (Nat → Int32) × (Nat → Int64) × (Nat → Int64)) (k : (Nat → Int32) → (Nat → Int32) → (Nat → Int64) → (Nat → Int64) → Int32 → Int32 → Option ((Nat → Int32) × (Nat → Int32) × (Nat → Int64) × (Nat → Int64))) : Prop := ∀ (v_columnsOf : (Nat → Int32)) (v_colours : (Nat → Int32)) (v_rowsOf : (Nat → Int64)) (v_clashesOf : (Nat → Int64)) (x1 : Int32) (x3 : Int32), k v_columnsOf v_colours v_rowsOf v_clashesOf x1 x3 = some out → ∀ (H : Heap) (locs : List Loc), va_P (dC, dI) vwCl (ws_X2_addToLastRow cB cI cJ cZ a_this a_columnsOf a_colours a_rowsOf a_clashesOf a_due v_columnCount v_neededCount v_rowCount v_columnsOf v_colours v_rowsOf v_clashesOf) H → va_D A (ws_X2_addToLastRow cB cI cJ cZ a_this a_columnsOf a_colours a_rowsOf a_clashesOf a_due v_columnCount v_neededCount v_rowCount v_columnsOf v_colours v_rowsOf v_clashesOf) → va_S A s.heap H locs → ∀ (ls : Array Slot), lv_has ls 4 [(0, .ref a_this), (1, .int x1), (3, .int x3)] → W p l e (headSpec wsX2_addToLastRow rm_X2_addToLastRow).room s m args below meth c H locs 0 0 (MQ below (qc_X2_addToLastRow A dC dI cB cI cJ cZ a_this a_columnsOf a_colours a_rowsOf a_clashesOf a_due v_columnCount v_neededCount v_rowCount out) args s 0 0 A) (F0 m 46 ls [])
abbrev g_X2_addToLastRow_0 (p : Program) (l : Launch) (e : Env) (s : State) (m : MethodId) (args : Array Value) (below : List Frame) (meth : Method) (c : Code) (A : Nat → Prop) (dC : Nat → ClassId) (dI : Nat → Nat → Nat) (cB cI cJ cZ : ClassId) (a_this a_columnsOf a_colours a_rowsOf a_clashesOf a_due : Nat) (v_columnCount : Int32) (v_neededCount : Int32) (v_rowCount : Int32) (out : (Nat → Int32) × (Nat → Int32) × (Nat → Int64) × (Nat → Int64)) (k : (Nat → Int32) → (Nat → Int32) → (Nat → Int64) → (Nat → Int64) → Int32 → Int32 → Option ((Nat → Int32) × (Nat → Int32) × (Nat → Int64) × (Nat → Int64))) : Prop := ∀ (v_columnsOf : (Nat → Int32)) (v_colours : (Nat → Int32)) (v_rowsOf : (Nat → Int64)) (v_clashesOf : (Nat → Int64)) (x1 : Int32) (x2 : Int32), k v_columnsOf v_colours v_rowsOf v_clashesOf x1 x2 = some out → ∀ (H : Heap) (locs : List Loc), va_P (dC, dI) vwCl (ws_X2_addToLastRow cB cI cJ cZ a_this a_columnsOf a_colours a_rowsOf a_clashesOf a_due v_columnCount v_neededCount v_rowCount v_columnsOf v_colours v_rowsOf v_clashesOf) H → va_D A (ws_X2_addToLastRow cB cI cJ cZ a_this a_columnsOf a_colours a_rowsOf a_clashesOf a_due v_columnCount v_neededCount v_rowCount v_columnsOf v_colours v_rowsOf v_clashesOf) → va_S A s.heap H locs → ∀ (ls : Array Slot), lv_has ls 4 [(0, .ref a_this), (1, .int x1), (2, .int x2)] → W p l e (headSpec wsX2_addToLastRow rm_X2_addToLastRow).room s m args below meth c H locs 0 0 (MQ below (qc_X2_addToLastRow A dC dI cB cI cJ cZ a_this a_columnsOf a_colours a_rowsOf a_clashesOf a_due v_columnCount v_neededCount v_rowCount out) args s 0 0 A) (F0 m 0 ls [])
set_option maxHeartbeats 4000000 in
set_option maxRecDepth 100000 in
theorem w_X2_addToLastRow_17 {p : Program} {l : Launch} {e : Env} {s : State} {m : MethodId} {args : Array Value} {below : List Frame} {meth : Method} {c : Code} {A : Nat → Prop} {dC : Nat → ClassId} {dI : Nat → Nat → Nat} {cB cI cJ cZ : ClassId} {a_this a_columnsOf a_colours a_rowsOf a_clashesOf a_due : Nat} {v_columnCount : Int32} {v_neededCount : Int32} {v_rowCount : Int32} {out : (Nat → Int32) × (Nat → Int32) × (Nat → Int64) × (Nat → Int64)} (C0 : Cx RX2 cX2_addToLastRow none 4 wsX2_addToLastRow p s m args meth c A) (hK : va_K (dC, dI) vwCl (tysG cB cI cJ cZ) s)  : g_X2_addToLastRow_17 p l e s m args below meth c A dC dI cB cI cJ cZ a_this a_columnsOf a_colours a_rowsOf a_clashesOf a_due v_columnCount v_neededCount v_rowCount out (f_X2_addToLastRow_17 v_neededCount v_rowCount ) := by
  obtain ⟨hx, hb, hr, hml, hown, hts, hlocks, hA⟩ := id C0
  intro v_columnsOf v_colours v_rowsOf v_clashesOf hf H locs hP hD hS ls hl
  replace hf : ((some ((v_columnsOf, v_colours, v_rowsOf, v_clashesOf))) : Option ((Nat → Int32) × (Nat → Int32) × (Nat → Int64) × (Nat → Int64))) = some out := hf
  exact W.vret hx hb hr (fun t ht hW => ⟨⟨(v_columnsOf, v_colours, v_rowsOf, v_clashesOf), rfl, Option.some.inj hf, by rw [ht]; exact hP, va_K.moved hW.alike hK, hD⟩, hS.F ht⟩) hS.2.2 dX2_addToLastRow_17
set_option maxHeartbeats 4000000 in
set_option maxRecDepth 100000 in
theorem w_X2_addToLastRow_46 {p : Program} {l : Launch} {e : Env} {s : State} {m : MethodId} {args : Array Value} {below : List Frame} {meth : Method} {c : Code} {A : Nat → Prop} {dC : Nat → ClassId} {dI : Nat → Nat → Nat} {cB cI cJ cZ : ClassId} {a_this a_columnsOf a_colours a_rowsOf a_clashesOf a_due : Nat} {v_columnCount : Int32} {v_neededCount : Int32} {v_rowCount : Int32} {out : (Nat → Int32) × (Nat → Int32) × (Nat → Int64) × (Nat → Int64)} (C0 : Cx RX2 cX2_addToLastRow none 4 wsX2_addToLastRow p s m args meth c A) (hK : va_K (dC, dI) vwCl (tysG cB cI cJ cZ) s)  : g_X2_addToLastRow_46 p l e s m args below meth c A dC dI cB cI cJ cZ a_this a_columnsOf a_colours a_rowsOf a_clashesOf a_due v_columnCount v_neededCount v_rowCount out (f_X2_addToLastRow_46 v_neededCount v_rowCount ) := by
  obtain ⟨hx, hb, hr, hml, hown, hts, hlocks, hA⟩ := id C0
  intro v_columnsOf v_colours v_rowsOf v_clashesOf x1 x3 hf H locs hP hD hS ls hl
  replace hf : ((if (x3 < 0 ∨ 60 ≤ Int32.toNatClampNeg x3) then none else
  if (x3 < 0 ∨ 60 ≤ Int32.toNatClampNeg x3) then none else
  if (x1 < 0 ∨ 24 ≤ Int32.toNatClampNeg x1) then none else
  if (x1 < 0 ∨ 24 ≤ Int32.toNatClampNeg x1) then none else
  some (((upd v_columnsOf (Int32.toNatClampNeg x3) ((v_columnsOf (Int32.toNatClampNeg x3)) ||| ((1 : Int32) <<< (x1 &&& 31)))), v_colours, (vp_updL v_rowsOf (Int32.toNatClampNeg x1) ((v_rowsOf (Int32.toNatClampNeg x1)) ||| ((1 : Int64) <<< (Int32.toInt64 x3 &&& 63)))), v_clashesOf))) : Option ((Nat → Int32) × (Nat → Int32) × (Nat → Int64) × (Nat → Int64))) = some out := hf
  refine lv_aload_n hx hb dX2_addToLastRow_46 rfl (lv_at hl 0 rfl) ?_
  refine va_get (D := (dC, dI)) (ci := 3) (v := .ref a_columnsOf) (C := RX2) (T := TX2) (N := 8) hx hb hts in_X2_addToLastRow_X2 hown hK hP 0 rfl rfl 3 (by decide) (hts (.fieldLink RX2 9 "LinkedCovers$Table" "columnsOf" "[I") lk_X2_addToLastRow_f9) (fun _ h9 => h9) rfl dX2_addToLastRow_47 ?_
  refine lv_iload_n hx hb dX2_addToLastRow_50 rfl (lv_at hl 2 rfl) ?_
  refine lv_dup2_11 hx hb dX2_addToLastRow_51 rfl rfl ?_
  obtain ⟨h_1, hf⟩ := gd_ck hf
  refine va_iald hx hb hK hP 1 1 rfl rfl h_1 dX2_addToLastRow_52 ?_
  refine lv_iconst (v := 1) hx hb dX2_addToLastRow_53 (by decide) ?_
  refine lv_iload_n hx hb dX2_addToLastRow_54 rfl (lv_at hl 1 rfl) ?_
  refine lv_ishl hx hb dX2_addToLastRow_55 ?_
  refine lv_ior hx hb dX2_addToLastRow_56 ?_
  obtain ⟨h_2, hf⟩ := gd_ck hf
  refine va_iast hx hb hK hP hD hS 1 1 rfl rfl h_2 dX2_addToLastRow_57 (fun H locs hP hD hS => ?_)
  have hP : va_P (dC, dI) vwCl (ws_X2_addToLastRow cB cI cJ cZ a_this a_columnsOf a_colours a_rowsOf a_clashesOf a_due v_columnCount v_neededCount v_rowCount (upd v_columnsOf (Int32.toNatClampNeg x3) ((v_columnsOf (Int32.toNatClampNeg x3)) ||| ((1 : Int32) <<< (x1 &&& 31)))) v_colours v_rowsOf v_clashesOf) H := hP
  have hD : va_D A (ws_X2_addToLastRow cB cI cJ cZ a_this a_columnsOf a_colours a_rowsOf a_clashesOf a_due v_columnCount v_neededCount v_rowCount (upd v_columnsOf (Int32.toNatClampNeg x3) ((v_columnsOf (Int32.toNatClampNeg x3)) ||| ((1 : Int32) <<< (x1 &&& 31)))) v_colours v_rowsOf v_clashesOf) := hD
  refine lv_aload_n hx hb dX2_addToLastRow_58 rfl (lv_at hl 0 rfl) ?_
  refine va_get (D := (dC, dI)) (ci := 3) (v := .ref a_rowsOf) (C := RX2) (T := TX2) (N := 8) hx hb hts in_X2_addToLastRow_X2 hown hK hP 0 rfl rfl 5 (by decide) (hts (.fieldLink RX2 19 "LinkedCovers$Table" "rowsOf" "[J") lk_X2_addToLastRow_f19) (fun _ h9 => h9) rfl dX2_addToLastRow_59 ?_
  refine lv_iload_n hx hb dX2_addToLastRow_62 rfl (lv_at hl 1 rfl) ?_
  refine lv_dup2_11 hx hb dX2_addToLastRow_63 rfl rfl ?_
  obtain ⟨h_3, hf⟩ := gd_ck hf
  refine va_lald hx hb hK hP 3 2 rfl rfl h_3 dX2_addToLastRow_64 ?_
  refine lv_lconst (v := 1) hx hb dX2_addToLastRow_65 (by decide) ?_
  refine lv_iload_n hx hb dX2_addToLastRow_66 rfl (lv_at hl 2 rfl) ?_
  refine lv_lshl (v := ((1 : Int64) <<< (Int32.toInt64 x3 &&& 63))) hx hb dX2_addToLastRow_67 rfl ?_
  refine lv_lor hx hb dX2_addToLastRow_68 ?_
  obtain ⟨h_4, hf⟩ := gd_ck hf
  refine va_last hx hb hK hP hD hS 3 2 rfl rfl h_4 dX2_addToLastRow_69 (fun H locs hP hD hS => ?_)
  have hP : va_P (dC, dI) vwCl (ws_X2_addToLastRow cB cI cJ cZ a_this a_columnsOf a_colours a_rowsOf a_clashesOf a_due v_columnCount v_neededCount v_rowCount (upd v_columnsOf (Int32.toNatClampNeg x3) ((v_columnsOf (Int32.toNatClampNeg x3)) ||| ((1 : Int32) <<< (x1 &&& 31)))) v_colours (vp_updL v_rowsOf (Int32.toNatClampNeg x1) ((v_rowsOf (Int32.toNatClampNeg x1)) ||| ((1 : Int64) <<< (Int32.toInt64 x3 &&& 63)))) v_clashesOf) H := hP
  have hD : va_D A (ws_X2_addToLastRow cB cI cJ cZ a_this a_columnsOf a_colours a_rowsOf a_clashesOf a_due v_columnCount v_neededCount v_rowCount (upd v_columnsOf (Int32.toNatClampNeg x3) ((v_columnsOf (Int32.toNatClampNeg x3)) ||| ((1 : Int32) <<< (x1 &&& 31)))) v_colours (vp_updL v_rowsOf (Int32.toNatClampNeg x1) ((v_rowsOf (Int32.toNatClampNeg x1)) ||| ((1 : Int64) <<< (Int32.toInt64 x3 &&& 63)))) v_clashesOf) := hD
  exact W.vret hx hb hr (fun t ht hW => ⟨⟨((upd v_columnsOf (Int32.toNatClampNeg x3) ((v_columnsOf (Int32.toNatClampNeg x3)) ||| ((1 : Int32) <<< (x1 &&& 31)))), v_colours, (vp_updL v_rowsOf (Int32.toNatClampNeg x1) ((v_rowsOf (Int32.toNatClampNeg x1)) ||| ((1 : Int64) <<< (Int32.toInt64 x3 &&& 63)))), v_clashesOf), rfl, Option.some.inj hf, by rw [ht]; exact hP, va_K.moved hW.alike hK, hD⟩, hS.F ht⟩) hS.2.2 dX2_addToLastRow_70
set_option maxHeartbeats 4000000 in
set_option maxRecDepth 100000 in
theorem w_X2_addToLastRow_0 {p : Program} {l : Launch} {e : Env} {s : State} {m : MethodId} {args : Array Value} {below : List Frame} {meth : Method} {c : Code} {A : Nat → Prop} {dC : Nat → ClassId} {dI : Nat → Nat → Nat} {cB cI cJ cZ : ClassId} {a_this a_columnsOf a_colours a_rowsOf a_clashesOf a_due : Nat} {v_columnCount : Int32} {v_neededCount : Int32} {v_rowCount : Int32} {out : (Nat → Int32) × (Nat → Int32) × (Nat → Int64) × (Nat → Int64)} (C0 : Cx RX2 cX2_addToLastRow none 4 wsX2_addToLastRow p s m args meth c A) (hK : va_K (dC, dI) vwCl (tysG cB cI cJ cZ) s)  : g_X2_addToLastRow_0 p l e s m args below meth c A dC dI cB cI cJ cZ a_this a_columnsOf a_colours a_rowsOf a_clashesOf a_due v_columnCount v_neededCount v_rowCount out (f_X2_addToLastRow v_neededCount v_rowCount ) := by
  obtain ⟨hx, hb, hr, hml, hown, hts, hlocks, hA⟩ := id C0
  intro v_columnsOf v_colours v_rowsOf v_clashesOf x1 x2 hf H locs hP hD hS ls hl
  replace hf : ((if (v_rowCount - (1 : Int32)) < 0 then
  (f_X2_addToLastRow_17 v_neededCount v_rowCount v_columnsOf v_colours v_rowsOf v_clashesOf)
  else
  (if (v_rowCount - (1 : Int32)) < (60 : Int32) then
  ((f_X2_isNeeded v_neededCount x1).bind (fun o_7 =>
  if o_7.1 = 0 then
  ((f_X2_markClashes v_colours v_rowsOf v_clashesOf (v_rowCount - (1 : Int32)) x1 x2).bind (fun o_9 =>
  if ((((v_rowCount - (1 : Int32)) * (24 : Int32)) + x1) < 0 ∨ 1440 ≤ Int32.toNatClampNeg (((v_rowCount - (1 : Int32)) * (24 : Int32)) + x1)) then none else
  f_X2_addToLastRow_46 v_neededCount v_rowCount v_columnsOf (upd v_colours (Int32.toNatClampNeg (((v_rowCount - (1 : Int32)) * (24 : Int32)) + x1)) (vp_nar .byte ((Int32.toInt8 x2).toInt32))) v_rowsOf o_9 x1 (v_rowCount - (1 : Int32))))
  else
  (f_X2_addToLastRow_46 v_neededCount v_rowCount v_columnsOf v_colours v_rowsOf v_clashesOf x1 (v_rowCount - (1 : Int32)))))
  else
  (f_X2_addToLastRow_17 v_neededCount v_rowCount v_columnsOf v_colours v_rowsOf v_clashesOf))) : Option ((Nat → Int32) × (Nat → Int32) × (Nat → Int64) × (Nat → Int64))) = some out := hf
  refine lv_aload_n hx hb dX2_addToLastRow_0 rfl (lv_at hl 0 rfl) ?_
  refine va_get (D := (dC, dI)) (ci := 3) (v := .int v_rowCount) (C := RX2) (T := TX2) (N := 8) hx hb hts in_X2_addToLastRow_X2 hown hK hP 0 rfl rfl 7 (by decide) (hts (.fieldLink RX2 36 "LinkedCovers$Table" "rowCount" "I") lk_X2_addToLastRow_f36) (fun _ h9 => h9) rfl dX2_addToLastRow_1 ?_
  refine lv_iconst (v := 1) hx hb dX2_addToLastRow_4 (by decide) ?_
  refine lv_isub hx hb dX2_addToLastRow_5 ?_
  refine lv_istore_n (lv' := [(3, .int (v_rowCount - (1 : Int32))), (0, .ref a_this), (1, .int x1), (2, .int x2)]) hx hb dX2_addToLastRow_6 rfl hl (by decide) rfl (fun ls hl => ?_)
  refine lv_iload_n hx hb dX2_addToLastRow_7 rfl (lv_at hl 0 rfl) ?_
  refine lv_if_lt (tgt := 17) hx hb dX2_addToLastRow_8 (by decide) (fun c_5 => ?_) (fun c_5 => ?_)
  · replace hf := (if_pos c_5).symm.trans hf
    exact w_X2_addToLastRow_17 C0 hK v_columnsOf v_colours v_rowsOf v_clashesOf hf _ _ hP hD hS ls (lv_sub hl [] rfl)
  · replace hf := (if_neg c_5).symm.trans hf
    refine lv_iload_n hx hb dX2_addToLastRow_11 rfl (lv_at hl 0 rfl) ?_
    refine lv_bipush (v := 60) hx hb dX2_addToLastRow_12 (by decide) ?_
    refine lv_icmp_lt (tgt := 18) hx hb dX2_addToLastRow_14 (by decide) (fun c_6 => ?_) (fun c_6 => ?_)
    · replace hf := (if_pos c_6).symm.trans hf
      refine lv_aload_n hx hb dX2_addToLastRow_18 rfl (lv_at hl 1 rfl) ?_
      refine lv_iload_n hx hb dX2_addToLastRow_19 rfl (lv_at hl 2 rfl) ?_
      obtain ⟨o_7, ho_7, hf⟩ := gd_bd hf
      have hPc := hP.sub (ws' := ws_X2_isNeeded cB cI cJ cZ a_this a_due a_columnsOf a_colours a_rowsOf a_clashesOf v_columnCount v_neededCount v_rowCount) [0] rfl
      have hDc := hD.sub (ws' := ws_X2_isNeeded cB cI cJ cZ a_this a_due a_columnsOf a_colours a_rowsOf a_clashesOf v_columnCount v_neededCount v_rowCount) [0] (by decide) rfl
      have hFc := va_free (wc := ws_X2_isNeeded cB cI cJ cZ a_this a_due a_columnsOf a_colours a_rowsOf a_clashesOf v_columnCount v_neededCount v_rowCount) hD hS hA [0] rfl
      refine va_calli (va_runV (As := [.int x1]) (rest := []) ⟨hx, hb, hml, hown, hts⟩ (c_X2_isNeeded l dC dI cB cI cJ cZ a_this a_due a_columnsOf a_colours a_rowsOf a_clashesOf H.size v_columnCount v_neededCount v_rowCount x1 o_7 ho_7) (cwV 1 hts gX2_addToLastRow_X2_isNeeded rfl rfl rfl ⟨rfl, nd_X2_isNeeded⟩ ⟨Nat.le_of_ble_eq_true rfl, Nat.le_of_ble_eq_true rfl⟩) ⟨fun a U g mk q => by obtain ⟨q0, q1, qP, qK, qD⟩ := q; exact ⟨q0, q1, qP, va_K.moved (u := U) (U := U.calling g mk a) (Vm.Alike.refl U.vm) qK, qD⟩, va_recv hK hPc (ci := 3) (q0 := 0) rfl rfl, fun U hU hW => ⟨rfl, by rw [hU], by rw [hU]; exact hPc, va_K.moved hW.alike hK, hDc.weaken (fun _ _ _ _ => trivial)⟩⟩ rfl rfl hl.1 rfl (lv_room (Nat.le_of_ble_eq_true rfl)) dX2_addToLastRow_20 ⟨Nat.le_of_ble_eq_true rfl, Nat.le_of_ble_eq_true rfl⟩) hS (fun q _ h => hFc q h) hFc (fun r_7 u_7 t H1 locs ht hvm hw hB hz1 hk1 hS => ?_)
      obtain ⟨rfl, rfl⟩ := hw
      obtain ⟨hP1, hK1, hD1⟩ := hB
      rw [ht] at hP1
      obtain ⟨hP, hD⟩ := va_join (wr := [(a_columnsOf, .inl (cI, 60, .inl v_columnsOf)), (a_colours, .inl (cB, 1440, .inl v_colours)), (a_rowsOf, .inl (cJ, 24, .inr (.inl v_rowsOf))), (a_clashesOf, .inl (cJ, 60, .inr (.inl v_clashesOf)))]) (w1 := ws_X2_isNeeded cB cI cJ cZ a_this a_due a_columnsOf a_colours a_rowsOf a_clashesOf v_columnCount v_neededCount v_rowCount) hP hD [0] [1, 2, 3, 4] rfl rfl (by decide) (by decide) hk1 hFc hP1 hD1
      generalize H1 = H at hP hS ⊢
      have hP : va_P (dC, dI) vwCl (ws_X2_addToLastRow cB cI cJ cZ a_this a_columnsOf a_colours a_rowsOf a_clashesOf a_due v_columnCount v_neededCount v_rowCount v_columnsOf v_colours v_rowsOf v_clashesOf) H := hP.sub [4, 0, 1, 2, 3] rfl
      have hD : va_D A (ws_X2_addToLastRow cB cI cJ cZ a_this a_columnsOf a_colours a_rowsOf a_clashesOf a_due v_columnCount v_neededCount v_rowCount v_columnsOf v_colours v_rowsOf v_clashesOf) := hD.sub [4, 0, 1, 2, 3] (by decide) rfl
      refine lv_if_ne (tgt := 46) hx hb dX2_addToLastRow_23 (by decide) (fun c_8 => ?_) (fun c_8 => ?_)
      · replace hf := (if_neg c_8).symm.trans hf
        exact w_X2_addToLastRow_46 C0 hK v_columnsOf v_colours v_rowsOf v_clashesOf x1 (v_rowCount - (1 : Int32)) hf _ _ hP hD hS ls (lv_sub hl [1, 2, 0] rfl)
      · replace hf := (if_pos c_8).symm.trans hf
        refine lv_aload_n hx hb dX2_addToLastRow_26 rfl (lv_at hl 1 rfl) ?_
        refine lv_iload_n hx hb dX2_addToLastRow_27 rfl (lv_at hl 0 rfl) ?_
        refine lv_iload_n hx hb dX2_addToLastRow_28 rfl (lv_at hl 2 rfl) ?_
        refine lv_iload_n hx hb dX2_addToLastRow_29 rfl (lv_at hl 3 rfl) ?_
        obtain ⟨o_9, ho_9, hf⟩ := gd_bd hf
        have hPc := hP.sub (ws' := ws_X2_markClashes cB cI cJ cZ a_this a_colours a_rowsOf a_clashesOf a_due a_columnsOf v_columnCount v_neededCount v_rowCount v_colours v_rowsOf v_clashesOf) [0, 2, 3, 4] rfl
        have hDc := hD.sub (ws' := ws_X2_markClashes cB cI cJ cZ a_this a_colours a_rowsOf a_clashesOf a_due a_columnsOf v_columnCount v_neededCount v_rowCount v_colours v_rowsOf v_clashesOf) [0, 2, 3, 4] (by decide) rfl
        have hFc := va_free (wc := ws_X2_markClashes cB cI cJ cZ a_this a_colours a_rowsOf a_clashesOf a_due a_columnsOf v_columnCount v_neededCount v_rowCount v_colours v_rowsOf v_clashesOf) hD hS hA [0, 2, 3, 4] rfl
        refine va_callv (va_runV (As := [.int (v_rowCount - (1 : Int32)), .int x1, .int x2]) (rest := []) ⟨hx, hb, hml, hown, hts⟩ (c_X2_markClashes l dC dI cB cI cJ cZ a_this a_colours a_rowsOf a_clashesOf a_due a_columnsOf H.size v_columnCount v_neededCount v_rowCount v_colours v_rowsOf v_clashesOf (v_rowCount - (1 : Int32)) x1 x2 o_9 ho_9) (cwV 3 hts gX2_addToLastRow_X2_markClashes rfl rfl rfl ⟨rfl, nd_X2_markClashes⟩ ⟨Nat.le_of_ble_eq_true rfl, Nat.le_of_ble_eq_true rfl⟩) ⟨fun a U g mk q => by obtain ⟨q0, q1, qP, qK, qD⟩ := q; exact ⟨q0, q1, qP, va_K.moved (u := U) (U := U.calling g mk a) (Vm.Alike.refl U.vm) qK, qD⟩, va_recv hK hPc (ci := 3) (q0 := 0) rfl rfl, fun U hU hW => ⟨rfl, by rw [hU], by rw [hU]; exact hPc, va_K.moved hW.alike hK, hDc.weaken (fun _ _ _ _ => trivial)⟩⟩ rfl rfl hl.1 rfl (lv_room (Nat.le_of_ble_eq_true rfl)) dX2_addToLastRow_30 ⟨Nat.le_of_ble_eq_true rfl, Nat.le_of_ble_eq_true rfl⟩) hS (fun q _ h => hFc q h) hFc (fun u_9 t H1 locs ht hvm hw hB hz1 hk1 hS => ?_)
        subst u_9
        obtain ⟨hP1, hK1, hD1⟩ := hB
        rw [ht] at hP1
        obtain ⟨hP, hD⟩ := va_join (wr := [(a_columnsOf, .inl (cI, 60, .inl v_columnsOf))]) (w1 := ws_X2_markClashes cB cI cJ cZ a_this a_colours a_rowsOf a_clashesOf a_due a_columnsOf v_columnCount v_neededCount v_rowCount v_colours v_rowsOf o_9) hP hD [0, 2, 3, 4] [1] rfl rfl (by decide) (by decide) hk1 hFc hP1 hD1
        generalize H1 = H at hP hS ⊢
        have hP : va_P (dC, dI) vwCl (ws_X2_addToLastRow cB cI cJ cZ a_this a_columnsOf a_colours a_rowsOf a_clashesOf a_due v_columnCount v_neededCount v_rowCount v_columnsOf v_colours v_rowsOf o_9) H := hP.sub [1, 0, 2, 3, 4] rfl
        have hD : va_D A (ws_X2_addToLastRow cB cI cJ cZ a_this a_columnsOf a_colours a_rowsOf a_clashesOf a_due v_columnCount v_neededCount v_rowCount v_columnsOf v_colours v_rowsOf o_9) := hD.sub [1, 0, 2, 3, 4] (by decide) rfl
        refine lv_aload_n hx hb dX2_addToLastRow_33 rfl (lv_at hl 1 rfl) ?_
        refine va_get (D := (dC, dI)) (ci := 3) (v := .ref a_colours) (C := RX2) (T := TX2) (N := 8) hx hb hts in_X2_addToLastRow_X2 hown hK hP 0 rfl rfl 4 (by decide) (hts (.fieldLink RX2 15 "LinkedCovers$Table" "colours" "[B") lk_X2_addToLastRow_f15) (fun _ h9 => h9) rfl dX2_addToLastRow_34 ?_
        refine lv_iload_n hx hb dX2_addToLastRow_37 rfl (lv_at hl 0 rfl) ?_
        refine lv_bipush (v := 24) hx hb dX2_addToLastRow_38 (by decide) ?_
        refine lv_imul hx hb dX2_addToLastRow_40 ?_
        refine lv_iload_n hx hb dX2_addToLastRow_41 rfl (lv_at hl 2 rfl) ?_
        refine lv_iadd hx hb dX2_addToLastRow_42 ?_
        refine lv_iload_n hx hb dX2_addToLastRow_43 rfl (lv_at hl 3 rfl) ?_
        refine lv_i2b (v := (Int32.toInt8 x2).toInt32) hx hb dX2_addToLastRow_44 rfl ?_
        obtain ⟨h_10, hf⟩ := gd_ck hf
        refine va_bast hx hb hK hP hD hS 2 0 rfl rfl h_10 dX2_addToLastRow_45 (fun H locs hP hD hS => ?_)
        have hP : va_P (dC, dI) vwCl (ws_X2_addToLastRow cB cI cJ cZ a_this a_columnsOf a_colours a_rowsOf a_clashesOf a_due v_columnCount v_neededCount v_rowCount v_columnsOf (upd v_colours (Int32.toNatClampNeg (((v_rowCount - (1 : Int32)) * (24 : Int32)) + x1)) (vp_nar .byte ((Int32.toInt8 x2).toInt32))) v_rowsOf o_9) H := hP
        have hD : va_D A (ws_X2_addToLastRow cB cI cJ cZ a_this a_columnsOf a_colours a_rowsOf a_clashesOf a_due v_columnCount v_neededCount v_rowCount v_columnsOf (upd v_colours (Int32.toNatClampNeg (((v_rowCount - (1 : Int32)) * (24 : Int32)) + x1)) (vp_nar .byte ((Int32.toInt8 x2).toInt32))) v_rowsOf o_9) := hD
        exact w_X2_addToLastRow_46 C0 hK v_columnsOf (upd v_colours (Int32.toNatClampNeg (((v_rowCount - (1 : Int32)) * (24 : Int32)) + x1)) (vp_nar .byte ((Int32.toInt8 x2).toInt32))) v_rowsOf o_9 x1 (v_rowCount - (1 : Int32)) hf _ _ hP hD hS ls (lv_sub hl [1, 2, 0] rfl)
    · replace hf := (if_neg c_6).symm.trans hf
      exact w_X2_addToLastRow_17 C0 hK v_columnsOf v_colours v_rowsOf v_clashesOf hf _ _ hP hD hS ls (lv_sub hl [] rfl)
theorem nd_X2_addToLastRow : yX2_addToLastRow.cls ≠ "java/lang/invoke/MethodHandle" ∧ yX2_addToLastRow.cls ≠ "java/lang/invoke/VarHandle" ∧ (parseMethodDescriptor yX2_addToLastRow.desc).map (fun d => d.parameters.length) = some 2 := by decide +kernel
set_option maxHeartbeats 4000000 in
set_option maxRecDepth 100000 in
theorem c_X2_addToLastRow (l : Launch) (dC : Nat → ClassId) (dI : Nat → Nat → Nat) (cB cI cJ cZ : ClassId) (a_this a_columnsOf a_colours a_rowsOf a_clashesOf a_due : Nat) (sz : Nat) (v_columnCount : Int32) (v_neededCount : Int32) (v_rowCount : Int32) (v_columnsOf : (Nat → Int32)) (v_colours : (Nat → Int32)) (v_rowsOf : (Nat → Int64)) (v_clashesOf : (Nat → Int64)) (x1 : Int32) (x2 : Int32) (out : (Nat → Int32) × (Nat → Int32) × (Nat → Int64) × (Nat → Int64)) (hf : f_X2_addToLastRow v_neededCount v_rowCount v_columnsOf v_colours v_rowsOf v_clashesOf x1 x2 = some out) : Met l yX2_addToLastRow wsX2_addToLastRow rm_X2_addToLastRow (va_Pc [.ref a_this, .int x1, .int x2] (fun U => U.heap.size = sz ∧ va_P (dC, dI) vwCl (ws_X2_addToLastRow cB cI cJ cZ a_this a_columnsOf a_colours a_rowsOf a_clashesOf a_due v_columnCount v_neededCount v_rowCount v_columnsOf v_colours v_rowsOf v_clashesOf) U.heap ∧ va_K (dC, dI) vwCl (tysG cB cI cJ cZ) U ∧ va_D (fun _ => True) (ws_X2_addToLastRow cB cI cJ cZ a_this a_columnsOf a_colours a_rowsOf a_clashesOf a_due v_columnCount v_neededCount v_rowCount v_columnsOf v_colours v_rowsOf v_clashesOf))) (qc_X2_addToLastRow (va_A (ws_X2_addToLastRow cB cI cJ cZ a_this a_columnsOf a_colours a_rowsOf a_clashesOf a_due v_columnCount v_neededCount v_rowCount v_columnsOf v_colours v_rowsOf v_clashesOf) sz) dC dI cB cI cJ cZ a_this a_columnsOf a_colours a_rowsOf a_clashesOf a_due v_columnCount v_neededCount v_rowCount out) 0 0 (va_A (ws_X2_addToLastRow cB cI cJ cZ a_this a_columnsOf a_colours a_rowsOf a_clashesOf a_due v_columnCount v_neededCount v_rowCount v_columnsOf v_colours v_rowsOf v_clashesOf) sz) := by
  refine Met.ofW (cc := cX2_addToLastRow) (maxL := 4) (ret := none) (by decide) rfl ?_
  intro p e s m args below meth c s₁ B hml hv
  obtain ⟨rfl, hsz, hP, hK, hD0⟩ := hv
  subst hsz
  have hD := hD0.self (sz := s.heap.size)
  generalize hAe : va_A (ws_X2_addToLastRow cB cI cJ cZ a_this a_columnsOf a_colours a_rowsOf a_clashesOf a_due v_columnCount v_neededCount v_rowCount v_columnsOf v_colours v_rowsOf v_clashesOf) s.heap.size = A at hD ⊢
  have hA : ∀ q : Nat, s.heap.size ≤ q → A q := fun q h => by rw [← hAe]; exact Or.inr h
  have hl := lv_entry ([.ref a_this, .int x1, .int x2]) (n := 4) (Nat.le_of_ble_eq_true rfl)
  rw [lg_entry_eq]
  generalize (lg_sl ([.ref a_this, .int x1, .int x2]) ++ List.replicate (4 - (lg_sl ([.ref a_this, .int x1, .int x2])).length) Slot.unset).toArray = ls at hl ⊢
  have hl : lv_has ls 4 [(0, .ref a_this), (1, .int x1), (2, .int x2)] := hl
  exact w_X2_addToLastRow_0 ⟨B.exec, B.bytes, B.returns, hml, findClass_of_methodNamed B.named, atoms_spec (ws := wsX2_addToLastRow) B.pre, B.notSynchronized, hA⟩ hK v_columnsOf v_colours v_rowsOf v_clashesOf x1 x2 hf _ _ hP hD va_S.rf ls (lv_sub hl [0, 1, 2] rfl)
-- X2.addRowOf(I)V: 22 instructions
theorem in_X2_addRowOf_X2 : ∀ w ∈ wsX20, w ∈ wsX2_addRowOf := by decide +kernel
abbrev ws_X2_addRowOf (cB cI cJ cZ : ClassId) (a_this a_columnsOf a_colours a_rowsOf a_clashesOf a_due : Nat) (v_columnCount : Int32) (v_neededCount : Int32) (v_rowCount : Int32) (v_columnsOf : (Nat → Int32)) (v_colours : (Nat → Int32)) (v_rowsOf : (Nat → Int64)) (v_clashesOf : (Nat → Int64)) : va_W := [(a_this, .inr (3, [.int v_columnCount, .int v_neededCount, .ref a_due, .ref a_columnsOf, .ref a_colours, .ref a_rowsOf, .ref a_clashesOf, .int v_rowCount])), (a_columnsOf, .inl (cI, 60, .inl v_columnsOf)), (a_colours, .inl (cB, 1440, .inl v_colours)), (a_rowsOf, .inl (cJ, 24, .inr (.inl v_rowsOf))), (a_clashesOf, .inl (cJ, 60, .inr (.inl v_clashesOf)))]
abbrev rm_X2_addRowOf : Room := { frames := 2, cells := 0, slots := 0, locals := 48 }
theorem lk_X2_addRowOf_f26 : Cond.fieldLink RX2 26 "LinkedCovers$Table" "columnCount" "I" ∈ wsX2_addRowOf := by decide +kernel
def f_X2_addRowOf_29 (v_columnCount : Int32) (v_neededCount : Int32) (k_7 : Int32 → (Nat → Int32) → (Nat → Int32) → (Nat → Int64) → (Nat → Int64) → Int32 → Int32 → Option (Int32 × (Nat → Int32) × (Nat → Int32) × (Nat → Int64) × (Nat → Int64))) (v_rowCount : Int32) (v_columnsOf : (Nat → Int32)) (v_colours : (Nat → Int32)) (v_rowsOf : (Nat → Int64)) (v_clashesOf : (Nat → Int64)) (x1 : Int32) (x2 : Int32) : Option (Int32 × (Nat → Int32) × (Nat → Int32) × (Nat → Int64) × (Nat → Int64)) :=
  k_7 v_rowCount v_columnsOf v_colours v_rowsOf v_clashesOf x1 (x2 + 1)
def f_X2_addRowOf_7 (v_columnCount : Int32) (v_neededCount : Int32)  : Nat → Int32 → (Nat → Int32) → (Nat → Int32) → (Nat → Int64) → (Nat → Int64) → Int32 → Int32 → Option (Int32 × (Nat → Int32) × (Nat → Int32) × (Nat → Int64) × (Nat → Int64))
  | 0 => fun _ _ _ _ _ _ _ => none
  | n + 1 => fun v_rowCount v_columnsOf v_colours v_rowsOf v_clashesOf x1 x2 => if v_columnCount ≤ x2 then
  (some ((v_rowCount, v_columnsOf, v_colours, v_rowsOf, v_clashesOf)))
  else
  (if ((x1 >>> (x2 &&& 31)) &&& (1 : Int32)) = 0 then
  (f_X2_addRowOf_29 v_columnCount v_neededCount (f_X2_addRowOf_7 v_columnCount v_neededCount n) v_rowCount v_columnsOf v_colours v_rowsOf v_clashesOf x1 x2)
  else
  ((f_X2_addToLastRow v_neededCount v_rowCount v_columnsOf v_colours v_rowsOf v_clashesOf x2 (0 : Int32)).bind (fun o_3 =>
  f_X2_addRowOf_29 v_columnCount v_neededCount (f_X2_addRowOf_7 v_columnCount v_neededCount n) v_rowCount o_3.1 o_3.2.1 o_3.2.2.1 o_3.2.2.2 x1 x2)))
def f_X2_addRowOf (v_columnCount : Int32) (v_neededCount : Int32)  (v_rowCount : Int32) (v_columnsOf : (Nat → Int32)) (v_colours : (Nat → Int32)) (v_rowsOf : (Nat → Int64)) (v_clashesOf : (Nat → Int64)) (x1 : Int32) : Option (Int32 × (Nat → Int32) × (Nat → Int32) × (Nat → Int64) × (Nat → Int64)) :=
  (f_X2_addRow v_rowCount).bind (fun o_4 =>
  f_X2_addRowOf_7 v_columnCount v_neededCount 1000000 o_4.2 v_columnsOf v_colours v_rowsOf v_clashesOf x1 (0 : Int32))
abbrev qc_X2_addRowOf (A : Nat → Prop) (dC : Nat → ClassId) (dI : Nat → Nat → Nat) (cB cI cJ cZ : ClassId) (a_this a_columnsOf a_colours a_rowsOf a_clashesOf a_due : Nat) (v_columnCount : Int32) (v_neededCount : Int32) (out : Int32 × (Nat → Int32) × (Nat → Int32) × (Nat → Int64) × (Nat → Int64)) : Array Value → State → Outcome → State → Prop := va_Qv (fun u : Int32 × (Nat → Int32) × (Nat → Int32) × (Nat → Int64) × (Nat → Int64) => u = out) (fun (u : Int32 × (Nat → Int32) × (Nat → Int32) × (Nat → Int64) × (Nat → Int64)) (t : State) => va_P (dC, dI) vwCl (ws_X2_addRowOf cB cI cJ cZ a_this a_columnsOf a_colours a_rowsOf a_clashesOf a_due v_columnCount v_neededCount u.1 u.2.1 u.2.2.1 u.2.2.2.1 u.2.2.2.2) t.heap ∧ va_K (dC, dI) vwCl (tysG cB cI cJ cZ) t ∧ va_D A (ws_X2_addRowOf cB cI cJ cZ a_this a_columnsOf a_colours a_rowsOf a_clashesOf a_due v_columnCount v_neededCount u.1 u.2.1 u.2.2.1 u.2.2.2.1 u.2.2.2.2)) A
abbrev g_X2_addRowOf_29 (p : Program) (l : Launch) (e : Env) (s : State) (m : MethodId) (args : Array Value) (below : List Frame) (meth : Method) (c : Code) (A : Nat → Prop) (dC : Nat → ClassId) (dI : Nat → Nat → Nat) (cB cI cJ cZ : ClassId) (a_this a_columnsOf a_colours a_rowsOf a_clashesOf a_due : Nat) (v_columnCount : Int32) (v_neededCount : Int32) (out : Int32 × (Nat → Int32) × (Nat → Int32) × (Nat → Int64) × (Nat → Int64)) (k : Int32 → (Nat → Int32) → (Nat → Int32) → (Nat → Int64) → (Nat → Int64) → Int32 → Int32 → Option (Int32 × (Nat → Int32) × (Nat → Int32) × (Nat → Int64) × (Nat → Int64))) : Prop := ∀ (v_rowCount : Int32) (v_columnsOf : (Nat → Int32)) (v_colours : (Nat → Int32)) (v_rowsOf : (Nat → Int64)) (v_clashesOf : (Nat → Int64)) (x1 : Int32) (x2 : Int32), k v_rowCount v_columnsOf v_colours v_rowsOf v_clashesOf x1 x2 = some out → ∀ (H : Heap) (locs : List Loc), va_P (dC, dI) vwCl (ws_X2_addRowOf cB cI cJ cZ a_this a_columnsOf a_colours a_rowsOf a_clashesOf a_due v_columnCount v_neededCount v_rowCount v_columnsOf v_colours v_rowsOf v_clashesOf) H → va_D A (ws_X2_addRowOf cB cI cJ cZ a_this a_columnsOf a_colours a_rowsOf a_clashesOf a_due v_columnCount v_neededCount v_rowCount v_columnsOf v_colours v_rowsOf v_clashesOf) → va_S A s.heap H locs → ∀ (ls : Array Slot), lv_has ls 3 [(0, .ref a_this), (1, .int x1), (2, .int x2)] → W p l e (headSpec wsX2_addRowOf rm_X2_addRowOf).room s m args below meth c H locs 0 0 (MQ below (qc_X2_addRowOf A dC dI cB cI cJ cZ a_this a_columnsOf a_colours a_rowsOf a_clashesOf a_due v_columnCount v_neededCount out) args s 0 0 A) (F0 m 29 ls [])
abbrev g_X2_addRowOf_7 (p : Program) (l : Launch) (e : Env) (s : State) (m : MethodId) (args : Array Value) (below : List Frame) (meth : Method) (c : Code) (A : Nat → Prop) (dC : Nat → ClassId) (dI : Nat → Nat → Nat) (cB cI cJ cZ : ClassId) (a_this a_columnsOf a_colours a_rowsOf a_clashesOf a_due : Nat) (v_columnCount : Int32) (v_neededCount : Int32) (out : Int32 × (Nat → Int32) × (Nat → Int32) × (Nat → Int64) × (Nat → Int64)) (k : Int32 → (Nat → Int32) → (Nat → Int32) → (Nat → Int64) → (Nat → Int64) → Int32 → Int32 → Option (Int32 × (Nat → Int32) × (Nat → Int32) × (Nat → Int64) × (Nat → Int64))) : Prop := ∀ (v_rowCount : Int32) (v_columnsOf : (Nat → Int32)) (v_colours : (Nat → Int32)) (v_rowsOf : (Nat → Int64)) (v_clashesOf : (Nat → Int64)) (x1 : Int32) (x2 : Int32), k v_rowCount v_columnsOf v_colours v_rowsOf v_clashesOf x1 x2 = some out → ∀ (H : Heap) (locs : List Loc), va_P (dC, dI) vwCl (ws_X2_addRowOf cB cI cJ cZ a_this a_columnsOf a_colours a_rowsOf a_clashesOf a_due v_columnCount v_neededCount v_rowCount v_columnsOf v_colours v_rowsOf v_clashesOf) H → va_D A (ws_X2_addRowOf cB cI cJ cZ a_this a_columnsOf a_colours a_rowsOf a_clashesOf a_due v_columnCount v_neededCount v_rowCount v_columnsOf v_colours v_rowsOf v_clashesOf) → va_S A s.heap H locs → ∀ (ls : Array Slot), lv_has ls 3 [(0, .ref a_this), (1, .int x1), (2, .int x2)] → W p l e (headSpec wsX2_addRowOf rm_X2_addRowOf).room s m args below meth c H locs 0 0 (MQ below (qc_X2_addRowOf A dC dI cB cI cJ cZ a_this a_columnsOf a_colours a_rowsOf a_clashesOf a_due v_columnCount v_neededCount out) args s 0 0 A) (F0 m 7 ls [])
abbrev g_X2_addRowOf_0 (p : Program) (l : Launch) (e : Env) (s : State) (m : MethodId) (args : Array Value) (below : List Frame) (meth : Method) (c : Code) (A : Nat → Prop) (dC : Nat → ClassId) (dI : Nat → Nat → Nat) (cB cI cJ cZ : ClassId) (a_this a_columnsOf a_colours a_rowsOf a_clashesOf a_due : Nat) (v_columnCount : Int32) (v_neededCount : Int32) (out : Int32 × (Nat → Int32) × (Nat → Int32) × (Nat → Int64) × (Nat → Int64)) (k : Int32 → (Nat → Int32) → (Nat → Int32) → (Nat → Int64) → (Nat → Int64) → Int32 → Option (Int32 × (Nat → Int32) × (Nat → Int32) × (Nat → Int64) × (Nat → Int64))) : Prop := ∀ (v_rowCount : Int32) (v_columnsOf : (Nat → Int32)) (v_colours : (Nat → Int32)) (v_rowsOf : (Nat → Int64)) (v_clashesOf : (Nat → Int64)) (x1 : Int32), k v_rowCount v_columnsOf v_colours v_rowsOf v_clashesOf x1 = some out → ∀ (H : Heap) (locs : List Loc), va_P (dC, dI) vwCl (ws_X2_addRowOf cB cI cJ cZ a_this a_columnsOf a_colours a_rowsOf a_clashesOf a_due v_columnCount v_neededCount v_rowCount v_columnsOf v_colours v_rowsOf v_clashesOf) H → va_D A (ws_X2_addRowOf cB cI cJ cZ a_this a_columnsOf a_colours a_rowsOf a_clashesOf a_due v_columnCount v_neededCount v_rowCount v_columnsOf v_colours v_rowsOf v_clashesOf) → va_S A s.heap H locs → ∀ (ls : Array Slot), lv_has ls 3 [(0, .ref a_this), (1, .int x1)] → W p l e (headSpec wsX2_addRowOf rm_X2_addRowOf).room s m args below meth c H locs 0 0 (MQ below (qc_X2_addRowOf A dC dI cB cI cJ cZ a_this a_columnsOf a_colours a_rowsOf a_clashesOf a_due v_columnCount v_neededCount out) args s 0 0 A) (F0 m 0 ls [])
set_option maxHeartbeats 4000000 in
set_option maxRecDepth 100000 in
theorem w_X2_addRowOf_29 {p : Program} {l : Launch} {e : Env} {s : State} {m : MethodId} {args : Array Value} {below : List Frame} {meth : Method} {c : Code} {A : Nat → Prop} {dC : Nat → ClassId} {dI : Nat → Nat → Nat} {cB cI cJ cZ : ClassId} {a_this a_columnsOf a_colours a_rowsOf a_clashesOf a_due : Nat} {v_columnCount : Int32} {v_neededCount : Int32} {out : Int32 × (Nat → Int32) × (Nat → Int32) × (Nat → Int64) × (Nat → Int64)} (C0 : Cx RX2 cX2_addRowOf none 3 wsX2_addRowOf p s m args meth c A) (hK : va_K (dC, dI) vwCl (tysG cB cI cJ cZ) s) {k_7 : Int32 → (Nat → Int32) → (Nat → Int32) → (Nat → Int64) → (Nat → Int64) → Int32 → Int32 → Option (Int32 × (Nat → Int32) × (Nat → Int32) × (Nat → Int64) × (Nat → Int64))} (hk_7 : g_X2_addRowOf_7 p l e s m args below meth c A dC dI cB cI cJ cZ a_this a_columnsOf a_colours a_rowsOf a_clashesOf a_due v_columnCount v_neededCount out k_7) : g_X2_addRowOf_29 p l e s m args below meth c A dC dI cB cI cJ cZ a_this a_columnsOf a_colours a_rowsOf a_clashesOf a_due v_columnCount v_neededCount out (f_X2_addRowOf_29 v_columnCount v_neededCount k_7) := by
  obtain ⟨hx, hb, hr, hml, hown, hts, hlocks, hA⟩ := id C0
  intro v_rowCount v_columnsOf v_colours v_rowsOf v_clashesOf x1 x2 hf H locs hP hD hS ls hl
  replace hf : ((k_7 v_rowCount v_columnsOf v_colours v_rowsOf v_clashesOf x1 (x2 + 1)) : Option (Int32 × (Nat → Int32) × (Nat → Int32) × (Nat → Int64) × (Nat → Int64))) = some out := hf
  refine lv_iinc (v := (x2 + 1)) (lv' := [(2, .int (x2 + 1)), (0, .ref a_this), (1, .int x1)]) hx hb dX2_addRowOf_29 hl (k := 2) rfl rfl (by decide) rfl (fun ls hl => ?_)
  refine lv_goto (tgt := 7) hx hb dX2_addRowOf_32 (by decide) ?_
  exact hk_7 v_rowCount v_columnsOf v_colours v_rowsOf v_clashesOf x1 (x2 + 1) hf _ _ hP hD hS ls (lv_sub hl [1, 2, 0] rfl)
set_option maxHeartbeats 4000000 in
set_option maxRecDepth 100000 in
theorem w_X2_addRowOf_7 {p : Program} {l : Launch} {e : Env} {s : State} {m : MethodId} {args : Array Value} {below : List Frame} {meth : Method} {c : Code} {A : Nat → Prop} {dC : Nat → ClassId} {dI : Nat → Nat → Nat} {cB cI cJ cZ : ClassId} {a_this a_columnsOf a_colours a_rowsOf a_clashesOf a_due : Nat} {v_columnCount : Int32} {v_neededCount : Int32} {out : Int32 × (Nat → Int32) × (Nat → Int32) × (Nat → Int64) × (Nat → Int64)} (C0 : Cx RX2 cX2_addRowOf none 3 wsX2_addRowOf p s m args meth c A) (hK : va_K (dC, dI) vwCl (tysG cB cI cJ cZ) s)  : ∀ n : Nat, g_X2_addRowOf_7 p l e s m args below meth c A dC dI cB cI cJ cZ a_this a_columnsOf a_colours a_rowsOf a_clashesOf a_due v_columnCount v_neededCount out (f_X2_addRowOf_7 v_columnCount v_neededCount  n) := by
  obtain ⟨hx, hb, hr, hml, hown, hts, hlocks, hA⟩ := id C0
  intro n
  induction n with
  | zero =>
    intro v_rowCount v_columnsOf v_colours v_rowsOf v_clashesOf x1 x2 hf H locs hP hD hS ls hl
    exact nomatch (show (none : Option (Int32 × (Nat → Int32) × (Nat → Int32) × (Nat → Int64) × (Nat → Int64))) = some out from hf)
  | succ n ih =>
    intro v_rowCount v_columnsOf v_colours v_rowsOf v_clashesOf x1 x2 hf H locs hP hD hS ls hl
    replace hf : ((if v_columnCount ≤ x2 then
  (some ((v_rowCount, v_columnsOf, v_colours, v_rowsOf, v_clashesOf)))
  else
  (if ((x1 >>> (x2 &&& 31)) &&& (1 : Int32)) = 0 then
  (f_X2_addRowOf_29 v_columnCount v_neededCount (f_X2_addRowOf_7 v_columnCount v_neededCount n) v_rowCount v_columnsOf v_colours v_rowsOf v_clashesOf x1 x2)
  else
  ((f_X2_addToLastRow v_neededCount v_rowCount v_columnsOf v_colours v_rowsOf v_clashesOf x2 (0 : Int32)).bind (fun o_3 =>
  f_X2_addRowOf_29 v_columnCount v_neededCount (f_X2_addRowOf_7 v_columnCount v_neededCount n) v_rowCount o_3.1 o_3.2.1 o_3.2.2.1 o_3.2.2.2 x1 x2)))) : Option (Int32 × (Nat → Int32) × (Nat → Int32) × (Nat → Int64) × (Nat → Int64))) = some out := hf
    refine lv_iload_n hx hb dX2_addRowOf_7 rfl (lv_at hl 2 rfl) ?_
    refine lv_aload_n hx hb dX2_addRowOf_8 rfl (lv_at hl 0 rfl) ?_
    refine va_get (D := (dC, dI)) (ci := 3) (v := .int v_columnCount) (C := RX2) (T := TX2) (N := 8) hx hb hts in_X2_addRowOf_X2 hown hK hP 0 rfl rfl 0 (by decide) (hts (.fieldLink RX2 26 "LinkedCovers$Table" "columnCount" "I") lk_X2_addRowOf_f26) (fun _ h9 => h9) rfl dX2_addRowOf_9 ?_
    refine lv_icmp_ge (tgt := 35) hx hb dX2_addRowOf_12 (by decide) (fun c_1 => ?_) (fun c_1 => ?_)
    · replace hf := (if_pos c_1).symm.trans hf
      exact W.vret hx hb hr (fun t ht hW => ⟨⟨(v_rowCount, v_columnsOf, v_colours, v_rowsOf, v_clashesOf), rfl, Option.some.inj hf, by rw [ht]; exact hP, va_K.moved hW.alike hK, hD⟩, hS.F ht⟩) hS.2.2 dX2_addRowOf_35
    · replace hf := (if_neg c_1).symm.trans hf
      refine lv_iload_n hx hb dX2_addRowOf_15 rfl (lv_at hl 1 rfl) ?_
      refine lv_iload_n hx hb dX2_addRowOf_16 rfl (lv_at hl 2 rfl) ?_
      refine lv_ishr hx hb dX2_addRowOf_17 ?_
      refine lv_iconst (v := 1) hx hb dX2_addRowOf_18 (by decide) ?_
      refine lv_iand hx hb dX2_addRowOf_19 ?_
      refine lv_if_eq (tgt := 29) hx hb dX2_addRowOf_20 (by decide) (fun c_2 => ?_) (fun c_2 => ?_)
      · replace hf := (if_pos c_2).symm.trans hf
        exact w_X2_addRowOf_29 C0 hK ih v_rowCount v_columnsOf v_colours v_rowsOf v_clashesOf x1 x2 hf _ _ hP hD hS ls (lv_sub hl [0, 1, 2] rfl)
      · replace hf := (if_neg c_2).symm.trans hf
        refine lv_aload_n hx hb dX2_addRowOf_23 rfl (lv_at hl 0 rfl) ?_
        refine lv_iload_n hx hb dX2_addRowOf_24 rfl (lv_at hl 2 rfl) ?_
        refine lv_iconst (v := 0) hx hb dX2_addRowOf_25 (by decide) ?_
        obtain ⟨o_3, ho_3, hf⟩ := gd_bd hf
        have hPc := hP.sub (ws' := ws_X2_addToLastRow cB cI cJ cZ a_this a_columnsOf a_colours a_rowsOf a_clashesOf a_due v_columnCount v_neededCount v_rowCount v_columnsOf v_colours v_rowsOf v_clashesOf) [0, 1, 2, 3, 4] rfl
        have hDc := hD.sub (ws' := ws_X2_addToLastRow cB cI cJ cZ a_this a_columnsOf a_colours a_rowsOf a_clashesOf a_due v_columnCount v_neededCount v_rowCount v_columnsOf v_colours v_rowsOf v_clashesOf) [0, 1, 2, 3, 4] (by decide) rfl
        have hFc := va_free (wc := ws_X2_addToLastRow cB cI cJ cZ a_this a_columnsOf a_colours a_rowsOf a_clashesOf a_due v_columnCount v_neededCount v_rowCount v_columnsOf v_colours v_rowsOf v_clashesOf) hD hS hA [0, 1, 2, 3, 4] rfl
        refine va_callv (va_runV (As := [.int x2, .int (0 : Int32)]) (rest := []) ⟨hx, hb, hml, hown, hts⟩ (c_X2_addToLastRow l dC dI cB cI cJ cZ a_this a_columnsOf a_colours a_rowsOf a_clashesOf a_due H.size v_columnCount v_neededCount v_rowCount v_columnsOf v_colours v_rowsOf v_clashesOf x2 (0 : Int32) o_3 ho_3) (cwV 2 hts gX2_addRowOf_X2_addToLastRow rfl rfl rfl ⟨rfl, nd_X2_addToLastRow⟩ ⟨Nat.le_of_ble_eq_true rfl, Nat.le_of_ble_eq_true rfl⟩) ⟨fun a U g mk q => by obtain ⟨q0, q1, qP, qK, qD⟩ := q; exact ⟨q0, q1, qP, va_K.moved (u := U) (U := U.calling g mk a) (Vm.Alike.refl U.vm) qK, qD⟩, va_recv hK hPc (ci := 3) (q0 := 0) rfl rfl, fun U hU hW => ⟨rfl, by rw [hU], by rw [hU]; exact hPc, va_K.moved hW.alike hK, hDc.weaken (fun _ _ _ _ => trivial)⟩⟩ rfl rfl hl.1 rfl (lv_room (Nat.le_of_ble_eq_true rfl)) dX2_addRowOf_26 ⟨Nat.le_of_ble_eq_true rfl, Nat.le_of_ble_eq_true rfl⟩) hS (fun q _ h => hFc q h) hFc (fun u_3 t H1 locs ht hvm hw hB hz1 hk1 hS => ?_)
        subst u_3
        obtain ⟨hP1, hK1, hD1⟩ := hB
        rw [ht] at hP1
        obtain ⟨hP, hD⟩ := va_join (wr := []) (w1 := ws_X2_addToLastRow cB cI cJ cZ a_this a_columnsOf a_colours a_rowsOf a_clashesOf a_due v_columnCount v_neededCount v_rowCount o_3.1 o_3.2.1 o_3.2.2.1 o_3.2.2.2) hP hD [0, 1, 2, 3, 4] [] rfl rfl (by decide) (by decide) hk1 hFc hP1 hD1
        generalize H1 = H at hP hS ⊢
        have hP : va_P (dC, dI) vwCl (ws_X2_addRowOf cB cI cJ cZ a_this a_columnsOf a_colours a_rowsOf a_clashesOf a_due v_columnCount v_neededCount v_rowCount o_3.1 o_3.2.1 o_3.2.2.1 o_3.2.2.2) H := hP.sub [0, 1, 2, 3, 4] rfl
        have hD : va_D A (ws_X2_addRowOf cB cI cJ cZ a_this a_columnsOf a_colours a_rowsOf a_clashesOf a_due v_columnCount v_neededCount v_rowCount o_3.1 o_3.2.1 o_3.2.2.1 o_3.2.2.2) := hD.sub [0, 1, 2, 3, 4] (by decide) rfl
        exact w_X2_addRowOf_29 C0 hK ih v_rowCount o_3.1 o_3.2.1 o_3.2.2.1 o_3.2.2.2 x1 x2 hf _ _ hP hD hS ls (lv_sub hl [0, 1, 2] rfl)
set_option maxHeartbeats 4000000 in
set_option maxRecDepth 100000 in
theorem w_X2_addRowOf_0 {p : Program} {l : Launch} {e : Env} {s : State} {m : MethodId} {args : Array Value} {below : List Frame} {meth : Method} {c : Code} {A : Nat → Prop} {dC : Nat → ClassId} {dI : Nat → Nat → Nat} {cB cI cJ cZ : ClassId} {a_this a_columnsOf a_colours a_rowsOf a_clashesOf a_due : Nat} {v_columnCount : Int32} {v_neededCount : Int32} {out : Int32 × (Nat → Int32) × (Nat → Int32) × (Nat → Int64) × (Nat → Int64)} (C0 : Cx RX2 cX2_addRowOf none 3 wsX2_addRowOf p s m args meth c A) (hK : va_K (dC, dI) vwCl (tysG cB cI cJ cZ) s)  : g_X2_addRowOf_0 p l e s m args below meth c A dC dI cB cI cJ cZ a_this a_columnsOf a_colours a_rowsOf a_clashesOf a_due v_columnCount v_neededCount out (f_X2_addRowOf v_columnCount v_neededCount ) := by
  obtain ⟨hx, hb, hr, hml, hown, hts, hlocks, hA⟩ := id C0
  intro v_rowCount v_columnsOf v_colours v_rowsOf v_clashesOf x1 hf H locs hP hD hS ls hl
  replace hf : (((f_X2_addRow v_rowCount).bind (fun o_4 =>
  f_X2_addRowOf_7 v_columnCount v_neededCount 1000000 o_4.2 v_columnsOf v_colours v_rowsOf v_clashesOf x1 (0 : Int32))) : Option (Int32 × (Nat → Int32) × (Nat → Int32) × (Nat → Int64) × (Nat → Int64))) = some out := hf
  refine lv_aload_n hx hb dX2_addRowOf_0 rfl (lv_at hl 0 rfl) ?_
  obtain ⟨o_4, ho_4, hf⟩ := gd_bd hf
  have hPc := hP.sub (ws' := ws_X2_addRow cB cI cJ cZ a_this a_due a_columnsOf a_colours a_rowsOf a_clashesOf v_columnCount v_neededCount v_rowCount) [0] rfl
  have hDc := hD.sub (ws' := ws_X2_addRow cB cI cJ cZ a_this a_due a_columnsOf a_colours a_rowsOf a_clashesOf v_columnCount v_neededCount v_rowCount) [0] (by decide) rfl
  have hFc := va_free (wc := ws_X2_addRow cB cI cJ cZ a_this a_due a_columnsOf a_colours a_rowsOf a_clashesOf v_columnCount v_neededCount v_rowCount) hD hS hA [0] rfl
  refine va_calli (va_runV (As := []) (rest := []) ⟨hx, hb, hml, hown, hts⟩ (c_X2_addRow l dC dI cB cI cJ cZ a_this a_due a_columnsOf a_colours a_rowsOf a_clashesOf H.size v_columnCount v_neededCount v_rowCount o_4 ho_4) (cwV 0 hts gX2_addRowOf_X2_addRow rfl rfl rfl ⟨rfl, nd_X2_addRow⟩ ⟨Nat.le_of_ble_eq_true rfl, Nat.le_of_ble_eq_true rfl⟩) ⟨fun a U g mk q => by obtain ⟨q0, q1, qP, qK, qD⟩ := q; exact ⟨q0, q1, qP, va_K.moved (u := U) (U := U.calling g mk a) (Vm.Alike.refl U.vm) qK, qD⟩, va_recv hK hPc (ci := 3) (q0 := 0) rfl rfl, fun U hU hW => ⟨rfl, by rw [hU], by rw [hU]; exact hPc, va_K.moved hW.alike hK, hDc.weaken (fun _ _ _ _ => trivial)⟩⟩ rfl rfl hl.1 rfl (lv_room (Nat.le_of_ble_eq_true rfl)) dX2_addRowOf_1 ⟨Nat.le_of_ble_eq_true rfl, Nat.le_of_ble_eq_true rfl⟩) hS (fun q _ h => hFc q h) hFc (fun r_4 u_4 t H1 locs ht hvm hw hB hz1 hk1 hS => ?_)
  obtain ⟨rfl, rfl⟩ := hw
  obtain ⟨hP1, hK1, hD1⟩ := hB
  rw [ht] at hP1
  obtain ⟨hP, hD⟩ := va_join (wr := [(a_columnsOf, .inl (cI, 60, .inl v_columnsOf)), (a_colours, .inl (cB, 1440, .inl v_colours)), (a_rowsOf, .inl (cJ, 24, .inr (.inl v_rowsOf))), (a_clashesOf, .inl (cJ, 60, .inr (.inl v_clashesOf)))]) (w1 := ws_X2_addRow cB cI cJ cZ a_this a_due a_columnsOf a_colours a_rowsOf a_clashesOf v_columnCount v_neededCount o_4.2) hP hD [0] [1, 2, 3, 4] rfl rfl (by decide) (by decide) hk1 hFc hP1 hD1
  generalize H1 = H at hP hS ⊢
  have hP : va_P (dC, dI) vwCl (ws_X2_addRowOf cB cI cJ cZ a_this a_columnsOf a_colours a_rowsOf a_clashesOf a_due v_columnCount v_neededCount o_4.2 v_columnsOf v_colours v_rowsOf v_clashesOf) H := hP.sub [4, 0, 1, 2, 3] rfl
  have hD : va_D A (ws_X2_addRowOf cB cI cJ cZ a_this a_columnsOf a_colours a_rowsOf a_clashesOf a_due v_columnCount v_neededCount o_4.2 v_columnsOf v_colours v_rowsOf v_clashesOf) := hD.sub [4, 0, 1, 2, 3] (by decide) rfl
  refine lv_pop hx hb dX2_addRowOf_4 rfl ?_
  refine lv_iconst (v := 0) hx hb dX2_addRowOf_5 (by decide) ?_
  refine lv_istore_n (lv' := [(2, .int (0 : Int32)), (0, .ref a_this), (1, .int x1)]) hx hb dX2_addRowOf_6 rfl hl (by decide) rfl (fun ls hl => ?_)
  exact w_X2_addRowOf_7 C0 hK 1000000 o_4.2 v_columnsOf v_colours v_rowsOf v_clashesOf x1 (0 : Int32) hf _ _ hP hD hS ls (lv_sub hl [1, 2, 0] rfl)
theorem nd_X2_addRowOf : yX2_addRowOf.cls ≠ "java/lang/invoke/MethodHandle" ∧ yX2_addRowOf.cls ≠ "java/lang/invoke/VarHandle" ∧ (parseMethodDescriptor yX2_addRowOf.desc).map (fun d => d.parameters.length) = some 1 := by decide +kernel
set_option maxHeartbeats 4000000 in
set_option maxRecDepth 100000 in
theorem c_X2_addRowOf (l : Launch) (dC : Nat → ClassId) (dI : Nat → Nat → Nat) (cB cI cJ cZ : ClassId) (a_this a_columnsOf a_colours a_rowsOf a_clashesOf a_due : Nat) (sz : Nat) (v_columnCount : Int32) (v_neededCount : Int32) (v_rowCount : Int32) (v_columnsOf : (Nat → Int32)) (v_colours : (Nat → Int32)) (v_rowsOf : (Nat → Int64)) (v_clashesOf : (Nat → Int64)) (x1 : Int32) (out : Int32 × (Nat → Int32) × (Nat → Int32) × (Nat → Int64) × (Nat → Int64)) (hf : f_X2_addRowOf v_columnCount v_neededCount v_rowCount v_columnsOf v_colours v_rowsOf v_clashesOf x1 = some out) : Met l yX2_addRowOf wsX2_addRowOf rm_X2_addRowOf (va_Pc [.ref a_this, .int x1] (fun U => U.heap.size = sz ∧ va_P (dC, dI) vwCl (ws_X2_addRowOf cB cI cJ cZ a_this a_columnsOf a_colours a_rowsOf a_clashesOf a_due v_columnCount v_neededCount v_rowCount v_columnsOf v_colours v_rowsOf v_clashesOf) U.heap ∧ va_K (dC, dI) vwCl (tysG cB cI cJ cZ) U ∧ va_D (fun _ => True) (ws_X2_addRowOf cB cI cJ cZ a_this a_columnsOf a_colours a_rowsOf a_clashesOf a_due v_columnCount v_neededCount v_rowCount v_columnsOf v_colours v_rowsOf v_clashesOf))) (qc_X2_addRowOf (va_A (ws_X2_addRowOf cB cI cJ cZ a_this a_columnsOf a_colours a_rowsOf a_clashesOf a_due v_columnCount v_neededCount v_rowCount v_columnsOf v_colours v_rowsOf v_clashesOf) sz) dC dI cB cI cJ cZ a_this a_columnsOf a_colours a_rowsOf a_clashesOf a_due v_columnCount v_neededCount out) 0 0 (va_A (ws_X2_addRowOf cB cI cJ cZ a_this a_columnsOf a_colours a_rowsOf a_clashesOf a_due v_columnCount v_neededCount v_rowCount v_columnsOf v_colours v_rowsOf v_clashesOf) sz) := by
  refine Met.ofW (cc := cX2_addRowOf) (maxL := 3) (ret := none) (by decide) rfl ?_
  intro p e s m args below meth c s₁ B hml hv
  obtain ⟨rfl, hsz, hP, hK, hD0⟩ := hv
  subst hsz
  have hD := hD0.self (sz := s.heap.size)
  generalize hAe : va_A (ws_X2_addRowOf cB cI cJ cZ a_this a_columnsOf a_colours a_rowsOf a_clashesOf a_due v_columnCount v_neededCount v_rowCount v_columnsOf v_colours v_rowsOf v_clashesOf) s.heap.size = A at hD ⊢
  have hA : ∀ q : Nat, s.heap.size ≤ q → A q := fun q h => by rw [← hAe]; exact Or.inr h
  have hl := lv_entry ([.ref a_this, .int x1]) (n := 3) (Nat.le_of_ble_eq_true rfl)
  rw [lg_entry_eq]
  generalize (lg_sl ([.ref a_this, .int x1]) ++ List.replicate (3 - (lg_sl ([.ref a_this, .int x1])).length) Slot.unset).toArray = ls at hl ⊢
  have hl : lv_has ls 3 [(0, .ref a_this), (1, .int x1)] := hl
  exact w_X2_addRowOf_0 ⟨B.exec, B.bytes, B.returns, hml, findClass_of_methodNamed B.named, atoms_spec (ws := wsX2_addRowOf) B.pre, B.notSynchronized, hA⟩ hK v_rowCount v_columnsOf v_colours v_rowsOf v_clashesOf x1 hf _ _ hP hD va_S.rf ls (lv_sub hl [0, 1] rfl)
