-- X0.addCube(III)Z: 49 instructions
theorem in_X0_addCube_X0 : ∀ w ∈ wsX00, w ∈ wsX0_addCube := by decide +kernel
abbrev ws_X0_addCube (cB cI cJ cZ : ClassId) (a_this a_sets : Nat) (v_cubes : Int32) (v_width : Int32) (v_height : Int32) (v_depth : Int32) (v_setCount : Int32) (v_roomIsShort : Int32) : va_W := [(a_this, .inr (1, [.ref a_sets, .int v_cubes, .int v_width, .int v_height, .int v_depth, .int v_setCount, .int v_roomIsShort]))]
abbrev rm_X0_addCube : Room := { frames := 1, cells := 0, slots := 0, locals := 20 }
theorem lk_X0_addCube_f15 : Cond.fieldLink RX0 15 "LinkedCovers$Piece" "cubes" "I" ∈ wsX0_addCube := by decide +kernel
def f_X0_addCube_27   (v_cubes : Int32) : Option (Int32 × Int32) :=
  some (((0 : Int32), v_cubes))
def f_X0_addCube_65   (v_cubes : Int32) : Option (Int32 × Int32) :=
  some (((0 : Int32), v_cubes))
def f_X0_addCube   (v_cubes : Int32) (x1 : Int32) (x2 : Int32) (x3 : Int32) : Option (Int32 × Int32) :=
  if x1 < 0 then
  (f_X0_addCube_27 v_cubes)
  else
  (if (3 : Int32) ≤ x1 then
  (f_X0_addCube_27 v_cubes)
  else
  (if x2 < 0 then
  (f_X0_addCube_27 v_cubes)
  else
  (if (3 : Int32) ≤ x2 then
  (f_X0_addCube_27 v_cubes)
  else
  (if x3 < 0 then
  (f_X0_addCube_27 v_cubes)
  else
  (if x3 < (3 : Int32) then
  (if (v_cubes &&& ((1 : Int32) <<< (((x1 + ((3 : Int32) * x2)) + ((9 : Int32) * x3)) &&& 31))) = 0 then
  ((f_J6_bitCount_0f7a4 v_cubes).bind (fun o_8 =>
  if o_8.1 < (7 : Int32) then
  (some (((1 : Int32), (v_cubes ||| ((1 : Int32) <<< (((x1 + ((3 : Int32) * x2)) + ((9 : Int32) * x3)) &&& 31))))))
  else
  (f_X0_addCube_65 v_cubes)))
  else
  (f_X0_addCube_65 v_cubes))
  else
  (f_X0_addCube_27 v_cubes))))))
abbrev qc_X0_addCube (A : Nat → Prop) (dC : Nat → ClassId) (dI : Nat → Nat → Nat) (cB cI cJ cZ : ClassId) (a_this a_sets : Nat) (v_width : Int32) (v_height : Int32) (v_depth : Int32) (v_setCount : Int32) (v_roomIsShort : Int32) (out : Int32 × Int32) : Array Value → State → Outcome → State → Prop := va_Qi (fun (r : Int32) (u : Int32) => r = out.1 ∧ u = out.2) (fun (u : Int32) (t : State) => va_P (dC, dI) vwCl (ws_X0_addCube cB cI cJ cZ a_this a_sets u v_width v_height v_depth v_setCount v_roomIsShort) t.heap ∧ va_K (dC, dI) vwCl (tysG cB cI cJ cZ) t ∧ va_D A (ws_X0_addCube cB cI cJ cZ a_this a_sets u v_width v_height v_depth v_setCount v_roomIsShort)) A
abbrev g_X0_addCube_27 (p : Program) (l : Launch) (e : Env) (s : State) (m : MethodId) (args : Array Value) (below : List Frame) (meth : Method) (c : Code) (A : Nat → Prop) (dC : Nat → ClassId) (dI : Nat → Nat → Nat) (cB cI cJ cZ : ClassId) (a_this a_sets : Nat) (v_width : Int32) (v_height : Int32) (v_depth : Int32) (v_setCount : Int32) (v_roomIsShort : Int32) (out : Int32 × Int32) (k : Int32 → Option (Int32 × Int32)) : Prop := ∀ (v_cubes : Int32), k v_cubes = some out → ∀ (H : Heap) (locs : List Loc), va_P (dC, dI) vwCl (ws_X0_addCube cB cI cJ cZ a_this a_sets v_cubes v_width v_height v_depth v_setCount v_roomIsShort) H → va_D A (ws_X0_addCube cB cI cJ cZ a_this a_sets v_cubes v_width v_height v_depth v_setCount v_roomIsShort) → va_S A s.heap H locs → ∀ (ls : Array Slot), lv_has ls 5 [] → W p l e (headSpec wsX0_addCube rm_X0_addCube).room s m args below meth c H locs 0 0 (MQ below (qc_X0_addCube A dC dI cB cI cJ cZ a_this a_sets v_width v_height v_depth v_setCount v_roomIsShort out) args s 0 0 A) (F0 m 27 ls [])
abbrev g_X0_addCube_65 (p : Program) (l : Launch) (e : Env) (s : State) (m : MethodId) (args : Array Value) (below : List Frame) (meth : Method) (c : Code) (A : Nat → Prop) (dC : Nat → ClassId) (dI : Nat → Nat → Nat) (cB cI cJ cZ : ClassId) (a_this a_sets : Nat) (v_width : Int32) (v_height : Int32) (v_depth : Int32) (v_setCount : Int32) (v_roomIsShort : Int32) (out : Int32 × Int32) (k : Int32 → Option (Int32 × Int32)) : Prop := ∀ (v_cubes : Int32), k v_cubes = some out → ∀ (H : Heap) (locs : List Loc), va_P (dC, dI) vwCl (ws_X0_addCube cB cI cJ cZ a_this a_sets v_cubes v_width v_height v_depth v_setCount v_roomIsShort) H → va_D A (ws_X0_addCube cB cI cJ cZ a_this a_sets v_cubes v_width v_height v_depth v_setCount v_roomIsShort) → va_S A s.heap H locs → ∀ (ls : Array Slot), lv_has ls 5 [] → W p l e (headSpec wsX0_addCube rm_X0_addCube).room s m args below meth c H locs 0 0 (MQ below (qc_X0_addCube A dC dI cB cI cJ cZ a_this a_sets v_width v_height v_depth v_setCount v_roomIsShort out) args s 0 0 A) (F0 m 65 ls [])
abbrev g_X0_addCube_0 (p : Program) (l : Launch) (e : Env) (s : State) (m : MethodId) (args : Array Value) (below : List Frame) (meth : Method) (c : Code) (A : Nat → Prop) (dC : Nat → ClassId) (dI : Nat → Nat → Nat) (cB cI cJ cZ : ClassId) (a_this a_sets : Nat) (v_width : Int32) (v_height : Int32) (v_depth : Int32) (v_setCount : Int32) (v_roomIsShort : Int32) (out : Int32 × Int32) (k : Int32 → Int32 → Int32 → Int32 → Option (Int32 × Int32)) : Prop := ∀ (v_cubes : Int32) (x1 : Int32) (x2 : Int32) (x3 : Int32), k v_cubes x1 x2 x3 = some out → ∀ (H : Heap) (locs : List Loc), va_P (dC, dI) vwCl (ws_X0_addCube cB cI cJ cZ a_this a_sets v_cubes v_width v_height v_depth v_setCount v_roomIsShort) H → va_D A (ws_X0_addCube cB cI cJ cZ a_this a_sets v_cubes v_width v_height v_depth v_setCount v_roomIsShort) → va_S A s.heap H locs → ∀ (ls : Array Slot), lv_has ls 5 [(0, .ref a_this), (1, .int x1), (2, .int x2), (3, .int x3)] → W p l e (headSpec wsX0_addCube rm_X0_addCube).room s m args below meth c H locs 0 0 (MQ below (qc_X0_addCube A dC dI cB cI cJ cZ a_this a_sets v_width v_height v_depth v_setCount v_roomIsShort out) args s 0 0 A) (F0 m 0 ls [])
set_option maxHeartbeats 4000000 in
set_option maxRecDepth 100000 in
theorem w_X0_addCube_27 {p : Program} {l : Launch} {e : Env} {s : State} {m : MethodId} {args : Array Value} {below : List Frame} {meth : Method} {c : Code} {A : Nat → Prop} {dC : Nat → ClassId} {dI : Nat → Nat → Nat} {cB cI cJ cZ : ClassId} {a_this a_sets : Nat} {v_width : Int32} {v_height : Int32} {v_depth : Int32} {v_setCount : Int32} {v_roomIsShort : Int32} {out : Int32 × Int32} (C0 : Cx RX0 cX0_addCube (some .boolean) 5 wsX0_addCube p s m args meth c A) (hK : va_K (dC, dI) vwCl (tysG cB cI cJ cZ) s)  : g_X0_addCube_27 p l e s m args below meth c A dC dI cB cI cJ cZ a_this a_sets v_width v_height v_depth v_setCount v_roomIsShort out (f_X0_addCube_27  ) := by
  obtain ⟨hx, hb, hr, hml, hown, hts, hlocks, hA⟩ := id C0
  intro v_cubes hf H locs hP hD hS ls hl
  replace hf : ((some (((0 : Int32), v_cubes))) : Option (Int32 × Int32)) = some out := hf
  refine lv_iconst (v := 0) hx hb dX0_addCube_27 (by decide) ?_
  have h9 := Option.some.inj hf
  have h8 := congrArg Prod.fst h9
  have h7 := congrArg Prod.snd h9
  exact W.zret (v := (0 : Int32)) hx hb hr rfl (fun t ht hW => ⟨⟨(0 : Int32), v_cubes, rfl, ⟨h8, h7⟩, by rw [ht]; exact hP, va_K.moved hW.alike hK, hD⟩, hS.F ht⟩) hS.2.2 dX0_addCube_28
set_option maxHeartbeats 4000000 in
set_option maxRecDepth 100000 in
theorem w_X0_addCube_65 {p : Program} {l : Launch} {e : Env} {s : State} {m : MethodId} {args : Array Value} {below : List Frame} {meth : Method} {c : Code} {A : Nat → Prop} {dC : Nat → ClassId} {dI : Nat → Nat → Nat} {cB cI cJ cZ : ClassId} {a_this a_sets : Nat} {v_width : Int32} {v_height : Int32} {v_depth : Int32} {v_setCount : Int32} {v_roomIsShort : Int32} {out : Int32 × Int32} (C0 : Cx RX0 cX0_addCube (some .boolean) 5 wsX0_addCube p s m args meth c A) (hK : va_K (dC, dI) vwCl (tysG cB cI cJ cZ) s)  : g_X0_addCube_65 p l e s m args below meth c A dC dI cB cI cJ cZ a_this a_sets v_width v_height v_depth v_setCount v_roomIsShort out (f_X0_addCube_65  ) := by
  obtain ⟨hx, hb, hr, hml, hown, hts, hlocks, hA⟩ := id C0
  intro v_cubes hf H locs hP hD hS ls hl
  replace hf : ((some (((0 : Int32), v_cubes))) : Option (Int32 × Int32)) = some out := hf
  refine lv_iconst (v := 0) hx hb dX0_addCube_65 (by decide) ?_
  have h9 := Option.some.inj hf
  have h8 := congrArg Prod.fst h9
  have h7 := congrArg Prod.snd h9
  exact W.zret (v := (0 : Int32)) hx hb hr rfl (fun t ht hW => ⟨⟨(0 : Int32), v_cubes, rfl, ⟨h8, h7⟩, by rw [ht]; exact hP, va_K.moved hW.alike hK, hD⟩, hS.F ht⟩) hS.2.2 dX0_addCube_66
set_option maxHeartbeats 4000000 in
set_option maxRecDepth 100000 in
theorem w_X0_addCube_0 {p : Program} {l : Launch} {e : Env} {s : State} {m : MethodId} {args : Array Value} {below : List Frame} {meth : Method} {c : Code} {A : Nat → Prop} {dC : Nat → ClassId} {dI : Nat → Nat → Nat} {cB cI cJ cZ : ClassId} {a_this a_sets : Nat} {v_width : Int32} {v_height : Int32} {v_depth : Int32} {v_setCount : Int32} {v_roomIsShort : Int32} {out : Int32 × Int32} (C0 : Cx RX0 cX0_addCube (some .boolean) 5 wsX0_addCube p s m args meth c A) (hK : va_K (dC, dI) vwCl (tysG cB cI cJ cZ) s)  : g_X0_addCube_0 p l e s m args below meth c A dC dI cB cI cJ cZ a_this a_sets v_width v_height v_depth v_setCount v_roomIsShort out (f_X0_addCube  ) := by
  obtain ⟨hx, hb, hr, hml, hown, hts, hlocks, hA⟩ := id C0
  intro v_cubes x1 x2 x3 hf H locs hP hD hS ls hl
  replace hf : ((if x1 < 0 then
  (f_X0_addCube_27 v_cubes)
  else
  (if (3 : Int32) ≤ x1 then
  (f_X0_addCube_27 v_cubes)
  else
  (if x2 < 0 then
  (f_X0_addCube_27 v_cubes)
  else
  (if (3 : Int32) ≤ x2 then
  (f_X0_addCube_27 v_cubes)
  else
  (if x3 < 0 then
  (f_X0_addCube_27 v_cubes)
  else
  (if x3 < (3 : Int32) then
  (if (v_cubes &&& ((1 : Int32) <<< (((x1 + ((3 : Int32) * x2)) + ((9 : Int32) * x3)) &&& 31))) = 0 then
  ((f_J6_bitCount_0f7a4 v_cubes).bind (fun o_8 =>
  if o_8.1 < (7 : Int32) then
  (some (((1 : Int32), (v_cubes ||| ((1 : Int32) <<< (((x1 + ((3 : Int32) * x2)) + ((9 : Int32) * x3)) &&& 31))))))
  else
  (f_X0_addCube_65 v_cubes)))
  else
  (f_X0_addCube_65 v_cubes))
  else
  (f_X0_addCube_27 v_cubes))))))) : Option (Int32 × Int32)) = some out := hf
  refine lv_iload_n hx hb dX0_addCube_0 rfl (lv_at hl 1 rfl) ?_
  refine lv_if_lt (tgt := 27) hx hb dX0_addCube_1 (by decide) (fun c_1 => ?_) (fun c_1 => ?_)
  · replace hf := (if_pos c_1).symm.trans hf
    exact w_X0_addCube_27 C0 hK v_cubes hf _ _ hP hD hS ls (lv_sub hl [] rfl)
  · replace hf := (if_neg c_1).symm.trans hf
    refine lv_iload_n hx hb dX0_addCube_4 rfl (lv_at hl 1 rfl) ?_
    refine lv_iconst (v := 3) hx hb dX0_addCube_5 (by decide) ?_
    refine lv_icmp_ge (tgt := 27) hx hb dX0_addCube_6 (by decide) (fun c_2 => ?_) (fun c_2 => ?_)
    · replace hf := (if_pos c_2).symm.trans hf
      exact w_X0_addCube_27 C0 hK v_cubes hf _ _ hP hD hS ls (lv_sub hl [] rfl)
    · replace hf := (if_neg c_2).symm.trans hf
      refine lv_iload_n hx hb dX0_addCube_9 rfl (lv_at hl 2 rfl) ?_
      refine lv_if_lt (tgt := 27) hx hb dX0_addCube_10 (by decide) (fun c_3 => ?_) (fun c_3 => ?_)
      · replace hf := (if_pos c_3).symm.trans hf
        exact w_X0_addCube_27 C0 hK v_cubes hf _ _ hP hD hS ls (lv_sub hl [] rfl)
      · replace hf := (if_neg c_3).symm.trans hf
        refine lv_iload_n hx hb dX0_addCube_13 rfl (lv_at hl 2 rfl) ?_
        refine lv_iconst (v := 3) hx hb dX0_addCube_14 (by decide) ?_
        refine lv_icmp_ge (tgt := 27) hx hb dX0_addCube_15 (by decide) (fun c_4 => ?_) (fun c_4 => ?_)
        · replace hf := (if_pos c_4).symm.trans hf
          exact w_X0_addCube_27 C0 hK v_cubes hf _ _ hP hD hS ls (lv_sub hl [] rfl)
        · replace hf := (if_neg c_4).symm.trans hf
          refine lv_iload_n hx hb dX0_addCube_18 rfl (lv_at hl 3 rfl) ?_
          refine lv_if_lt (tgt := 27) hx hb dX0_addCube_19 (by decide) (fun c_5 => ?_) (fun c_5 => ?_)
          · replace hf := (if_pos c_5).symm.trans hf
            exact w_X0_addCube_27 C0 hK v_cubes hf _ _ hP hD hS ls (lv_sub hl [] rfl)
          · replace hf := (if_neg c_5).symm.trans hf
            refine lv_iload_n hx hb dX0_addCube_22 rfl (lv_at hl 3 rfl) ?_
            refine lv_iconst (v := 3) hx hb dX0_addCube_23 (by decide) ?_
            refine lv_icmp_lt (tgt := 29) hx hb dX0_addCube_24 (by decide) (fun c_6 => ?_) (fun c_6 => ?_)
            · replace hf := (if_pos c_6).symm.trans hf
              refine lv_iconst (v := 1) hx hb dX0_addCube_29 (by decide) ?_
              refine lv_iload_n hx hb dX0_addCube_30 rfl (lv_at hl 1 rfl) ?_
              refine lv_iconst (v := 3) hx hb dX0_addCube_31 (by decide) ?_
              refine lv_iload_n hx hb dX0_addCube_32 rfl (lv_at hl 2 rfl) ?_
              refine lv_imul hx hb dX0_addCube_33 ?_
              refine lv_iadd hx hb dX0_addCube_34 ?_
              refine lv_bipush (v := 9) hx hb dX0_addCube_35 (by decide) ?_
              refine lv_iload_n hx hb dX0_addCube_37 rfl (lv_at hl 3 rfl) ?_
              refine lv_imul hx hb dX0_addCube_38 ?_
              refine lv_iadd hx hb dX0_addCube_39 ?_
              refine lv_ishl hx hb dX0_addCube_40 ?_
              refine lv_istore (lv' := [(4, .int ((1 : Int32) <<< (((x1 + ((3 : Int32) * x2)) + ((9 : Int32) * x3)) &&& 31))), (0, .ref a_this), (1, .int x1), (2, .int x2), (3, .int x3)]) hx hb dX0_addCube_41 hl (by decide) rfl (fun ls hl => ?_)
              refine lv_aload_n hx hb dX0_addCube_43 rfl (lv_at hl 1 rfl) ?_
              refine va_get (D := (dC, dI)) (ci := 1) (v := .int v_cubes) (C := RX0) (T := TX0) (N := 7) hx hb hts in_X0_addCube_X0 hown hK hP 0 rfl rfl 1 (by decide) (hts (.fieldLink RX0 15 "LinkedCovers$Piece" "cubes" "I") lk_X0_addCube_f15) (fun _ h9 => h9) rfl dX0_addCube_44 ?_
              refine lv_iload hx hb dX0_addCube_47 (lv_at hl 0 rfl) ?_
              refine lv_iand hx hb dX0_addCube_49 ?_
              refine lv_if_ne (tgt := 65) hx hb dX0_addCube_50 (by decide) (fun c_7 => ?_) (fun c_7 => ?_)
              · replace hf := (if_neg c_7).symm.trans hf
                exact w_X0_addCube_65 C0 hK v_cubes hf _ _ hP hD hS ls (lv_sub hl [] rfl)
              · replace hf := (if_pos c_7).symm.trans hf
                refine lv_aload_n hx hb dX0_addCube_53 rfl (lv_at hl 1 rfl) ?_
                refine va_get (D := (dC, dI)) (ci := 1) (v := .int v_cubes) (C := RX0) (T := TX0) (N := 7) hx hb hts in_X0_addCube_X0 hown hK hP 0 rfl rfl 1 (by decide) (hts (.fieldLink RX0 15 "LinkedCovers$Piece" "cubes" "I") lk_X0_addCube_f15) (fun _ h9 => h9) rfl dX0_addCube_54 ?_
                obtain ⟨o_8, ho_8, hf⟩ := gd_bd hf
                have hPc := hP.sub (ws' := ws_J6_bitCount_0f7a4 cB cI cJ cZ  ) [] rfl
                have hDc := hD.sub (ws' := ws_J6_bitCount_0f7a4 cB cI cJ cZ  ) [] (by decide) rfl
                have hFc := va_free (wc := ws_J6_bitCount_0f7a4 cB cI cJ cZ  ) hD hS hA [] rfl
                refine va_calli (va_runS (As := [.int v_cubes]) (rest := []) ⟨hx, hb, hml, hown, hts⟩ (c_J6_bitCount_0f7a4 l dC dI cB cI cJ cZ H.size v_cubes o_8 ho_8) (va_cwS 1 hts gX0_addCube_J6_bitCount_0f7a4 rfl rfl rfl nd_J6_bitCount_0f7a4 ⟨Nat.le_of_ble_eq_true rfl, Nat.le_of_ble_eq_true rfl⟩) ⟨fun a U g mk q => by obtain ⟨q0, q1, qP, qK, qD⟩ := q; exact ⟨q0, q1, qP, va_K.moved (u := U) (U := U.calling g mk a) (Vm.Alike.refl U.vm) qK, qD⟩, fun U hU hW => ⟨rfl, by rw [hU], by rw [hU]; exact hPc, va_K.moved hW.alike hK, hDc.weaken (fun _ _ _ _ => trivial)⟩⟩ rfl rfl hl.1 rfl (lv_room (Nat.le_of_ble_eq_true rfl)) dX0_addCube_57 ⟨Nat.le_of_ble_eq_true rfl, Nat.le_of_ble_eq_true rfl⟩) hS (fun q _ h => hFc q h) hFc (fun r_8 u_8 t H1 locs ht hvm hw hB hz1 hk1 hS => ?_)
                obtain ⟨rfl, rfl⟩ := hw
                obtain ⟨hP1, hK1, hD1⟩ := hB
                rw [ht] at hP1
                obtain ⟨hP, hD⟩ := va_join (wr := [(a_this, .inr (1, [.ref a_sets, .int v_cubes, .int v_width, .int v_height, .int v_depth, .int v_setCount, .int v_roomIsShort]))]) (w1 := ws_J6_bitCount_0f7a4 cB cI cJ cZ  ) hP hD [] [0] rfl rfl (by decide) (by decide) hk1 hFc hP1 hD1
                generalize H1 = H at hP hS ⊢
                have hP : va_P (dC, dI) vwCl (ws_X0_addCube cB cI cJ cZ a_this a_sets v_cubes v_width v_height v_depth v_setCount v_roomIsShort) H := hP.sub [0] rfl
                have hD : va_D A (ws_X0_addCube cB cI cJ cZ a_this a_sets v_cubes v_width v_height v_depth v_setCount v_roomIsShort) := hD.sub [0] (by decide) rfl
                refine lv_bipush (v := 7) hx hb dX0_addCube_60 (by decide) ?_
                refine lv_icmp_lt (tgt := 67) hx hb dX0_addCube_62 (by decide) (fun c_9 => ?_) (fun c_9 => ?_)
                · replace hf := (if_pos c_9).symm.trans hf
                  refine lv_aload_n hx hb dX0_addCube_67 rfl (lv_at hl 1 rfl) ?_
                  refine lv_dup hx hb dX0_addCube_68 rfl ?_
                  refine va_get (D := (dC, dI)) (ci := 1) (v := .int v_cubes) (C := RX0) (T := TX0) (N := 7) hx hb hts in_X0_addCube_X0 hown hK hP 0 rfl rfl 1 (by decide) (hts (.fieldLink RX0 15 "LinkedCovers$Piece" "cubes" "I") lk_X0_addCube_f15) (fun _ h9 => h9) rfl dX0_addCube_69 ?_
                  refine lv_iload hx hb dX0_addCube_72 (lv_at hl 0 rfl) ?_
                  refine lv_ior hx hb dX0_addCube_74 ?_
                  refine va_put (D := (dC, dI)) (ci := 1) (v := .int (v_cubes ||| ((1 : Int32) <<< (((x1 + ((3 : Int32) * x2)) + ((9 : Int32) * x3)) &&& 31)))) (ty := .int) (C := RX0) (T := TX0) (N := 7) hx hb hts in_X0_addCube_X0 tyX0 tyX0_ok nmX0 hown hK hP hD hS 0 rfl rfl 1 (by decide) (hts (.fieldLink RX0 15 "LinkedCovers$Piece" "cubes" "I") lk_X0_addCube_f15) (fun _ h9 => h9) rfl (by decide +kernel) rfl rfl (Nat.le_of_ble_eq_true rfl) dX0_addCube_75 (fun H locs hP hD hS => ?_)
                  have hP : va_P (dC, dI) vwCl (ws_X0_addCube cB cI cJ cZ a_this a_sets (v_cubes ||| ((1 : Int32) <<< (((x1 + ((3 : Int32) * x2)) + ((9 : Int32) * x3)) &&& 31))) v_width v_height v_depth v_setCount v_roomIsShort) H := hP
                  have hD : va_D A (ws_X0_addCube cB cI cJ cZ a_this a_sets (v_cubes ||| ((1 : Int32) <<< (((x1 + ((3 : Int32) * x2)) + ((9 : Int32) * x3)) &&& 31))) v_width v_height v_depth v_setCount v_roomIsShort) := hD
                  refine lv_iconst (v := 1) hx hb dX0_addCube_78 (by decide) ?_
                  have h9 := Option.some.inj hf
                  have h8 := congrArg Prod.fst h9
                  have h7 := congrArg Prod.snd h9
                  exact W.zret (v := (1 : Int32)) hx hb hr rfl (fun t ht hW => ⟨⟨(1 : Int32), (v_cubes ||| ((1 : Int32) <<< (((x1 + ((3 : Int32) * x2)) + ((9 : Int32) * x3)) &&& 31))), rfl, ⟨h8, h7⟩, by rw [ht]; exact hP, va_K.moved hW.alike hK, hD⟩, hS.F ht⟩) hS.2.2 dX0_addCube_79
                · replace hf := (if_neg c_9).symm.trans hf
                  exact w_X0_addCube_65 C0 hK v_cubes hf _ _ hP hD hS ls (lv_sub hl [] rfl)
            · replace hf := (if_neg c_6).symm.trans hf
              exact w_X0_addCube_27 C0 hK v_cubes hf _ _ hP hD hS ls (lv_sub hl [] rfl)
theorem nd_X0_addCube : yX0_addCube.cls ≠ "java/lang/invoke/MethodHandle" ∧ yX0_addCube.cls ≠ "java/lang/invoke/VarHandle" ∧ (parseMethodDescriptor yX0_addCube.desc).map (fun d => d.parameters.length) = some 3 := by decide +kernel
set_option maxHeartbeats 4000000 in
set_option maxRecDepth 100000 in
theorem c_X0_addCube (l : Launch) (dC : Nat → ClassId) (dI : Nat → Nat → Nat) (cB cI cJ cZ : ClassId) (a_this a_sets : Nat) (sz : Nat) (v_cubes : Int32) (v_width : Int32) (v_height : Int32) (v_depth : Int32) (v_setCount : Int32) (v_roomIsShort : Int32) (x1 : Int32) (x2 : Int32) (x3 : Int32) (out : Int32 × Int32) (hf : f_X0_addCube  v_cubes x1 x2 x3 = some out) : Met l yX0_addCube wsX0_addCube rm_X0_addCube (va_Pc [.ref a_this, .int x1, .int x2, .int x3] (fun U => U.heap.size = sz ∧ va_P (dC, dI) vwCl (ws_X0_addCube cB cI cJ cZ a_this a_sets v_cubes v_width v_height v_depth v_setCount v_roomIsShort) U.heap ∧ va_K (dC, dI) vwCl (tysG cB cI cJ cZ) U ∧ va_D (fun _ => True) (ws_X0_addCube cB cI cJ cZ a_this a_sets v_cubes v_width v_height v_depth v_setCount v_roomIsShort))) (qc_X0_addCube (va_A (ws_X0_addCube cB cI cJ cZ a_this a_sets v_cubes v_width v_height v_depth v_setCount v_roomIsShort) sz) dC dI cB cI cJ cZ a_this a_sets v_width v_height v_depth v_setCount v_roomIsShort out) 0 0 (va_A (ws_X0_addCube cB cI cJ cZ a_this a_sets v_cubes v_width v_height v_depth v_setCount v_roomIsShort) sz) := by
  refine Met.ofW (cc := cX0_addCube) (maxL := 5) (ret := (some .boolean)) (by decide) rfl ?_
  intro p e s m args below meth c s₁ B hml hv
  obtain ⟨rfl, hsz, hP, hK, hD0⟩ := hv
  subst hsz
  have hD := hD0.self (sz := s.heap.size)
  generalize hAe : va_A (ws_X0_addCube cB cI cJ cZ a_this a_sets v_cubes v_width v_height v_depth v_setCount v_roomIsShort) s.heap.size = A at hD ⊢
  have hA : ∀ q : Nat, s.heap.size ≤ q → A q := fun q h => by rw [← hAe]; exact Or.inr h
  have hl := lv_entry ([.ref a_this, .int x1, .int x2, .int x3]) (n := 5) (Nat.le_of_ble_eq_true rfl)
  rw [lg_entry_eq]
  generalize (lg_sl ([.ref a_this, .int x1, .int x2, .int x3]) ++ List.replicate (5 - (lg_sl ([.ref a_this, .int x1, .int x2, .int x3])).length) Slot.unset).toArray = ls at hl ⊢
  have hl : lv_has ls 5 [(0, .ref a_this), (1, .int x1), (2, .int x2), (3, .int x3)] := hl
  exact w_X0_addCube_0 ⟨B.exec, B.bytes, B.returns, hml, findClass_of_methodNamed B.named, atoms_spec (ws := wsX0_addCube) B.pre, B.notSynchronized, hA⟩ hK v_cubes x1 x2 x3 hf _ _ hP hD va_S.rf ls (lv_sub hl [0, 1, 2, 3] rfl)
-- X0.isEmpty()Z: 7 instructions
theorem in_X0_isEmpty_X0 : ∀ w ∈ wsX00, w ∈ wsX0_isEmpty := by decide +kernel
abbrev ws_X0_isEmpty (cB cI cJ cZ : ClassId) (a_this a_sets : Nat) (v_cubes : Int32) (v_width : Int32) (v_height : Int32) (v_depth : Int32) (v_setCount : Int32) (v_roomIsShort : Int32) : va_W := [(a_this, .inr (1, [.ref a_sets, .int v_cubes, .int v_width, .int v_height, .int v_depth, .int v_setCount, .int v_roomIsShort]))]
abbrev rm_X0_isEmpty : Room := { frames := 0, cells := 0, slots := 0, locals := 0 }
theorem lk_X0_isEmpty_f15 : Cond.fieldLink RX0 15 "LinkedCovers$Piece" "cubes" "I" ∈ wsX0_isEmpty := by decide +kernel
def f_X0_isEmpty_12 (v_cubes : Int32)  (y0 : Int32) : Option (Int32 × Unit) :=
  if ¬ (y0 = 0 ∨ y0 = 1) then none else
  some ((y0, ()))
def f_X0_isEmpty (v_cubes : Int32)   : Option (Int32 × Unit) :=
  if v_cubes = 0 then
  (f_X0_isEmpty_12 v_cubes (1 : Int32))
  else
  (f_X0_isEmpty_12 v_cubes (0 : Int32))
abbrev qc_X0_isEmpty (A : Nat → Prop) (dC : Nat → ClassId) (dI : Nat → Nat → Nat) (cB cI cJ cZ : ClassId) (a_this a_sets : Nat) (v_cubes : Int32) (v_width : Int32) (v_height : Int32) (v_depth : Int32) (v_setCount : Int32) (v_roomIsShort : Int32) (out : Int32 × Unit) : Array Value → State → Outcome → State → Prop := va_Qi (fun (r : Int32) (u : Unit) => r = out.1 ∧ u = out.2) (fun (u : Unit) (t : State) => va_P (dC, dI) vwCl (ws_X0_isEmpty cB cI cJ cZ a_this a_sets v_cubes v_width v_height v_depth v_setCount v_roomIsShort) t.heap ∧ va_K (dC, dI) vwCl (tysG cB cI cJ cZ) t ∧ va_D A (ws_X0_isEmpty cB cI cJ cZ a_this a_sets v_cubes v_width v_height v_depth v_setCount v_roomIsShort)) A
abbrev g_X0_isEmpty_12 (p : Program) (l : Launch) (e : Env) (s : State) (m : MethodId) (args : Array Value) (below : List Frame) (meth : Method) (c : Code) (A : Nat → Prop) (dC : Nat → ClassId) (dI : Nat → Nat → Nat) (cB cI cJ cZ : ClassId) (a_this a_sets : Nat) (v_cubes : Int32) (v_width : Int32) (v_height : Int32) (v_depth : Int32) (v_setCount : Int32) (v_roomIsShort : Int32) (out : Int32 × Unit) (k : Int32 → Option (Int32 × Unit)) : Prop := ∀ (y0 : Int32), k y0 = some out → ∀ (H : Heap) (locs : List Loc), va_P (dC, dI) vwCl (ws_X0_isEmpty cB cI cJ cZ a_this a_sets v_cubes v_width v_height v_depth v_setCount v_roomIsShort) H → va_D A (ws_X0_isEmpty cB cI cJ cZ a_this a_sets v_cubes v_width v_height v_depth v_setCount v_roomIsShort) → va_S A s.heap H locs → ∀ (ls : Array Slot), lv_has ls 1 [] → W p l e (headSpec wsX0_isEmpty rm_X0_isEmpty).room s m args below meth c H locs 0 0 (MQ below (qc_X0_isEmpty A dC dI cB cI cJ cZ a_this a_sets v_cubes v_width v_height v_depth v_setCount v_roomIsShort out) args s 0 0 A) (F0 m 12 ls [.int y0])
abbrev g_X0_isEmpty_0 (p : Program) (l : Launch) (e : Env) (s : State) (m : MethodId) (args : Array Value) (below : List Frame) (meth : Method) (c : Code) (A : Nat → Prop) (dC : Nat → ClassId) (dI : Nat → Nat → Nat) (cB cI cJ cZ : ClassId) (a_this a_sets : Nat) (v_cubes : Int32) (v_width : Int32) (v_height : Int32) (v_depth : Int32) (v_setCount : Int32) (v_roomIsShort : Int32) (out : Int32 × Unit) (k : Option (Int32 × Unit)) : Prop := ∀ (_ : Unit), k = some out → ∀ (H : Heap) (locs : List Loc), va_P (dC, dI) vwCl (ws_X0_isEmpty cB cI cJ cZ a_this a_sets v_cubes v_width v_height v_depth v_setCount v_roomIsShort) H → va_D A (ws_X0_isEmpty cB cI cJ cZ a_this a_sets v_cubes v_width v_height v_depth v_setCount v_roomIsShort) → va_S A s.heap H locs → ∀ (ls : Array Slot), lv_has ls 1 [(0, .ref a_this)] → W p l e (headSpec wsX0_isEmpty rm_X0_isEmpty).room s m args below meth c H locs 0 0 (MQ below (qc_X0_isEmpty A dC dI cB cI cJ cZ a_this a_sets v_cubes v_width v_height v_depth v_setCount v_roomIsShort out) args s 0 0 A) (F0 m 0 ls [])
set_option maxHeartbeats 4000000 in
set_option maxRecDepth 100000 in
theorem w_X0_isEmpty_12 {p : Program} {l : Launch} {e : Env} {s : State} {m : MethodId} {args : Array Value} {below : List Frame} {meth : Method} {c : Code} {A : Nat → Prop} {dC : Nat → ClassId} {dI : Nat → Nat → Nat} {cB cI cJ cZ : ClassId} {a_this a_sets : Nat} {v_cubes : Int32} {v_width : Int32} {v_height : Int32} {v_depth : Int32} {v_setCount : Int32} {v_roomIsShort : Int32} {out : Int32 × Unit} (C0 : Cx RX0 cX0_isEmpty (some .boolean) 1 wsX0_isEmpty p s m args meth c A) (hK : va_K (dC, dI) vwCl (tysG cB cI cJ cZ) s)  : g_X0_isEmpty_12 p l e s m args below meth c A dC dI cB cI cJ cZ a_this a_sets v_cubes v_width v_height v_depth v_setCount v_roomIsShort out (f_X0_isEmpty_12 v_cubes ) := by
  obtain ⟨hx, hb, hr, hml, hown, hts, hlocks, hA⟩ := id C0
  intro y0 hf H locs hP hD hS ls hl
  replace hf : ((if ¬ (y0 = 0 ∨ y0 = 1) then none else
  some ((y0, ()))) : Option (Int32 × Unit)) = some out := hf
  obtain ⟨h_1, hf⟩ := gd_ck hf
  have h9 := Option.some.inj hf
  have h8 := congrArg Prod.fst h9
  have h7 := congrArg Prod.snd h9
  exact W.zret (v := y0) hx hb hr (gd_z h_1) (fun t ht hW => ⟨⟨y0, (), rfl, ⟨h8, h7⟩, by rw [ht]; exact hP, va_K.moved hW.alike hK, hD⟩, hS.F ht⟩) hS.2.2 dX0_isEmpty_12
set_option maxHeartbeats 4000000 in
set_option maxRecDepth 100000 in
theorem w_X0_isEmpty_0 {p : Program} {l : Launch} {e : Env} {s : State} {m : MethodId} {args : Array Value} {below : List Frame} {meth : Method} {c : Code} {A : Nat → Prop} {dC : Nat → ClassId} {dI : Nat → Nat → Nat} {cB cI cJ cZ : ClassId} {a_this a_sets : Nat} {v_cubes : Int32} {v_width : Int32} {v_height : Int32} {v_depth : Int32} {v_setCount : Int32} {v_roomIsShort : Int32} {out : Int32 × Unit} (C0 : Cx RX0 cX0_isEmpty (some .boolean) 1 wsX0_isEmpty p s m args meth c A) (hK : va_K (dC, dI) vwCl (tysG cB cI cJ cZ) s)  : g_X0_isEmpty_0 p l e s m args below meth c A dC dI cB cI cJ cZ a_this a_sets v_cubes v_width v_height v_depth v_setCount v_roomIsShort out (f_X0_isEmpty v_cubes ) := by
  obtain ⟨hx, hb, hr, hml, hown, hts, hlocks, hA⟩ := id C0
  intro _ hf H locs hP hD hS ls hl
  replace hf : ((if v_cubes = 0 then
  (f_X0_isEmpty_12 v_cubes (1 : Int32))
  else
  (f_X0_isEmpty_12 v_cubes (0 : Int32))) : Option (Int32 × Unit)) = some out := hf
  refine lv_aload_n hx hb dX0_isEmpty_0 rfl (lv_at hl 0 rfl) ?_
  refine va_get (D := (dC, dI)) (ci := 1) (v := .int v_cubes) (C := RX0) (T := TX0) (N := 7) hx hb hts in_X0_isEmpty_X0 hown hK hP 0 rfl rfl 1 (by decide) (hts (.fieldLink RX0 15 "LinkedCovers$Piece" "cubes" "I") lk_X0_isEmpty_f15) (fun _ h9 => h9) rfl dX0_isEmpty_1 ?_
  refine lv_if_ne (tgt := 11) hx hb dX0_isEmpty_4 (by decide) (fun c_2 => ?_) (fun c_2 => ?_)
  · replace hf := (if_neg c_2).symm.trans hf
    refine lv_iconst (v := 0) hx hb dX0_isEmpty_11 (by decide) ?_
    exact w_X0_isEmpty_12 C0 hK (0 : Int32) hf _ _ hP hD hS ls (lv_sub hl [] rfl)
  · replace hf := (if_pos c_2).symm.trans hf
    refine lv_iconst (v := 1) hx hb dX0_isEmpty_7 (by decide) ?_
    refine lv_goto (tgt := 12) hx hb dX0_isEmpty_8 (by decide) ?_
    exact w_X0_isEmpty_12 C0 hK (1 : Int32) hf _ _ hP hD hS ls (lv_sub hl [] rfl)
theorem nd_X0_isEmpty : yX0_isEmpty.cls ≠ "java/lang/invoke/MethodHandle" ∧ yX0_isEmpty.cls ≠ "java/lang/invoke/VarHandle" ∧ (parseMethodDescriptor yX0_isEmpty.desc).map (fun d => d.parameters.length) = some 0 := by decide +kernel
set_option maxHeartbeats 4000000 in
set_option maxRecDepth 100000 in
theorem c_X0_isEmpty (l : Launch) (dC : Nat → ClassId) (dI : Nat → Nat → Nat) (cB cI cJ cZ : ClassId) (a_this a_sets : Nat) (sz : Nat) (v_cubes : Int32) (v_width : Int32) (v_height : Int32) (v_depth : Int32) (v_setCount : Int32) (v_roomIsShort : Int32)  (out : Int32 × Unit) (hf : f_X0_isEmpty v_cubes  = some out) : Met l yX0_isEmpty wsX0_isEmpty rm_X0_isEmpty (va_Pc [.ref a_this] (fun U => U.heap.size = sz ∧ va_P (dC, dI) vwCl (ws_X0_isEmpty cB cI cJ cZ a_this a_sets v_cubes v_width v_height v_depth v_setCount v_roomIsShort) U.heap ∧ va_K (dC, dI) vwCl (tysG cB cI cJ cZ) U ∧ va_D (fun _ => True) (ws_X0_isEmpty cB cI cJ cZ a_this a_sets v_cubes v_width v_height v_depth v_setCount v_roomIsShort))) (qc_X0_isEmpty (va_A (ws_X0_isEmpty cB cI cJ cZ a_this a_sets v_cubes v_width v_height v_depth v_setCount v_roomIsShort) sz) dC dI cB cI cJ cZ a_this a_sets v_cubes v_width v_height v_depth v_setCount v_roomIsShort out) 0 0 (va_A (ws_X0_isEmpty cB cI cJ cZ a_this a_sets v_cubes v_width v_height v_depth v_setCount v_roomIsShort) sz) := by
  refine Met.ofW (cc := cX0_isEmpty) (maxL := 1) (ret := (some .boolean)) (by decide) rfl ?_
  intro p e s m args below meth c s₁ B hml hv
  obtain ⟨rfl, hsz, hP, hK, hD0⟩ := hv
  subst hsz
  have hD := hD0.self (sz := s.heap.size)
  generalize hAe : va_A (ws_X0_isEmpty cB cI cJ cZ a_this a_sets v_cubes v_width v_height v_depth v_setCount v_roomIsShort) s.heap.size = A at hD ⊢
  have hA : ∀ q : Nat, s.heap.size ≤ q → A q := fun q h => by rw [← hAe]; exact Or.inr h
  have hl := lv_entry ([.ref a_this]) (n := 1) (Nat.le_of_ble_eq_true rfl)
  rw [lg_entry_eq]
  generalize (lg_sl ([.ref a_this]) ++ List.replicate (1 - (lg_sl ([.ref a_this])).length) Slot.unset).toArray = ls at hl ⊢
  have hl : lv_has ls 1 [(0, .ref a_this)] := hl
  exact w_X0_isEmpty_0 ⟨B.exec, B.bytes, B.returns, hml, findClass_of_methodNamed B.named, atoms_spec (ws := wsX0_isEmpty) B.pre, B.notSynchronized, hA⟩ hK () hf _ _ hP hD va_S.rf ls (lv_sub hl [0] rfl)
-- X0.clear()V: 4 instructions
theorem in_X0_clear_X0 : ∀ w ∈ wsX00, w ∈ wsX0_clear := by decide +kernel
abbrev ws_X0_clear (cB cI cJ cZ : ClassId) (a_this a_sets : Nat) (v_cubes : Int32) (v_width : Int32) (v_height : Int32) (v_depth : Int32) (v_setCount : Int32) (v_roomIsShort : Int32) : va_W := [(a_this, .inr (1, [.ref a_sets, .int v_cubes, .int v_width, .int v_height, .int v_depth, .int v_setCount, .int v_roomIsShort]))]
abbrev rm_X0_clear : Room := { frames := 0, cells := 0, slots := 0, locals := 0 }
theorem lk_X0_clear_f15 : Cond.fieldLink RX0 15 "LinkedCovers$Piece" "cubes" "I" ∈ wsX0_clear := by decide +kernel
def f_X0_clear   (v_cubes : Int32) : Option (Int32) :=
  some ((0 : Int32))
abbrev qc_X0_clear (A : Nat → Prop) (dC : Nat → ClassId) (dI : Nat → Nat → Nat) (cB cI cJ cZ : ClassId) (a_this a_sets : Nat) (v_width : Int32) (v_height : Int32) (v_depth : Int32) (v_setCount : Int32) (v_roomIsShort : Int32) (out : Int32) : Array Value → State → Outcome → State → Prop := va_Qv (fun u : Int32 => u = out) (fun (u : Int32) (t : State) => va_P (dC, dI) vwCl (ws_X0_clear cB cI cJ cZ a_this a_sets u v_width v_height v_depth v_setCount v_roomIsShort) t.heap ∧ va_K (dC, dI) vwCl (tysG cB cI cJ cZ) t ∧ va_D A (ws_X0_clear cB cI cJ cZ a_this a_sets u v_width v_height v_depth v_setCount v_roomIsShort)) A
abbrev g_X0_clear_0 (p : Program) (l : Launch) (e : Env) (s : State) (m : MethodId) (args : Array Value) (below : List Frame) (meth : Method) (c : Code) (A : Nat → Prop) (dC : Nat → ClassId) (dI : Nat → Nat → Nat) (cB cI cJ cZ : ClassId) (a_this a_sets : Nat) (v_width : Int32) (v_height : Int32) (v_depth : Int32) (v_setCount : Int32) (v_roomIsShort : Int32) (out : Int32) (k : Int32 → Option (Int32)) : Prop := ∀ (v_cubes : Int32), k v_cubes = some out → ∀ (H : Heap) (locs : List Loc), va_P (dC, dI) vwCl (ws_X0_clear cB cI cJ cZ a_this a_sets v_cubes v_width v_height v_depth v_setCount v_roomIsShort) H → va_D A (ws_X0_clear cB cI cJ cZ a_this a_sets v_cubes v_width v_height v_depth v_setCount v_roomIsShort) → va_S A s.heap H locs → ∀ (ls : Array Slot), lv_has ls 1 [(0, .ref a_this)] → W p l e (headSpec wsX0_clear rm_X0_clear).room s m args below meth c H locs 0 0 (MQ below (qc_X0_clear A dC dI cB cI cJ cZ a_this a_sets v_width v_height v_depth v_setCount v_roomIsShort out) args s 0 0 A) (F0 m 0 ls [])
set_option maxHeartbeats 4000000 in
set_option maxRecDepth 100000 in
theorem w_X0_clear_0 {p : Program} {l : Launch} {e : Env} {s : State} {m : MethodId} {args : Array Value} {below : List Frame} {meth : Method} {c : Code} {A : Nat → Prop} {dC : Nat → ClassId} {dI : Nat → Nat → Nat} {cB cI cJ cZ : ClassId} {a_this a_sets : Nat} {v_width : Int32} {v_height : Int32} {v_depth : Int32} {v_setCount : Int32} {v_roomIsShort : Int32} {out : Int32} (C0 : Cx RX0 cX0_clear none 1 wsX0_clear p s m args meth c A) (hK : va_K (dC, dI) vwCl (tysG cB cI cJ cZ) s)  : g_X0_clear_0 p l e s m args below meth c A dC dI cB cI cJ cZ a_this a_sets v_width v_height v_depth v_setCount v_roomIsShort out (f_X0_clear  ) := by
  obtain ⟨hx, hb, hr, hml, hown, hts, hlocks, hA⟩ := id C0
  intro v_cubes hf H locs hP hD hS ls hl
  replace hf : ((some ((0 : Int32))) : Option (Int32)) = some out := hf
  refine lv_aload_n hx hb dX0_clear_0 rfl (lv_at hl 0 rfl) ?_
  refine lv_iconst (v := 0) hx hb dX0_clear_1 (by decide) ?_
  refine va_put (D := (dC, dI)) (ci := 1) (v := .int (0 : Int32)) (ty := .int) (C := RX0) (T := TX0) (N := 7) hx hb hts in_X0_clear_X0 tyX0 tyX0_ok nmX0 hown hK hP hD hS 0 rfl rfl 1 (by decide) (hts (.fieldLink RX0 15 "LinkedCovers$Piece" "cubes" "I") lk_X0_clear_f15) (fun _ h9 => h9) rfl (by decide +kernel) rfl rfl (Nat.le_of_ble_eq_true rfl) dX0_clear_2 (fun H locs hP hD hS => ?_)
  have hP : va_P (dC, dI) vwCl (ws_X0_clear cB cI cJ cZ a_this a_sets (0 : Int32) v_width v_height v_depth v_setCount v_roomIsShort) H := hP
  have hD : va_D A (ws_X0_clear cB cI cJ cZ a_this a_sets (0 : Int32) v_width v_height v_depth v_setCount v_roomIsShort) := hD
  exact W.vret hx hb hr (fun t ht hW => ⟨⟨(0 : Int32), rfl, Option.some.inj hf, by rw [ht]; exact hP, va_K.moved hW.alike hK, hD⟩, hS.F ht⟩) hS.2.2 dX0_clear_5
theorem nd_X0_clear : yX0_clear.cls ≠ "java/lang/invoke/MethodHandle" ∧ yX0_clear.cls ≠ "java/lang/invoke/VarHandle" ∧ (parseMethodDescriptor yX0_clear.desc).map (fun d => d.parameters.length) = some 0 := by decide +kernel
set_option maxHeartbeats 4000000 in
set_option maxRecDepth 100000 in
theorem c_X0_clear (l : Launch) (dC : Nat → ClassId) (dI : Nat → Nat → Nat) (cB cI cJ cZ : ClassId) (a_this a_sets : Nat) (sz : Nat) (v_cubes : Int32) (v_width : Int32) (v_height : Int32) (v_depth : Int32) (v_setCount : Int32) (v_roomIsShort : Int32)  (out : Int32) (hf : f_X0_clear  v_cubes = some out) : Met l yX0_clear wsX0_clear rm_X0_clear (va_Pc [.ref a_this] (fun U => U.heap.size = sz ∧ va_P (dC, dI) vwCl (ws_X0_clear cB cI cJ cZ a_this a_sets v_cubes v_width v_height v_depth v_setCount v_roomIsShort) U.heap ∧ va_K (dC, dI) vwCl (tysG cB cI cJ cZ) U ∧ va_D (fun _ => True) (ws_X0_clear cB cI cJ cZ a_this a_sets v_cubes v_width v_height v_depth v_setCount v_roomIsShort))) (qc_X0_clear (va_A (ws_X0_clear cB cI cJ cZ a_this a_sets v_cubes v_width v_height v_depth v_setCount v_roomIsShort) sz) dC dI cB cI cJ cZ a_this a_sets v_width v_height v_depth v_setCount v_roomIsShort out) 0 0 (va_A (ws_X0_clear cB cI cJ cZ a_this a_sets v_cubes v_width v_height v_depth v_setCount v_roomIsShort) sz) := by
  refine Met.ofW (cc := cX0_clear) (maxL := 1) (ret := none) (by decide) rfl ?_
  intro p e s m args below meth c s₁ B hml hv
  obtain ⟨rfl, hsz, hP, hK, hD0⟩ := hv
  subst hsz
  have hD := hD0.self (sz := s.heap.size)
  generalize hAe : va_A (ws_X0_clear cB cI cJ cZ a_this a_sets v_cubes v_width v_height v_depth v_setCount v_roomIsShort) s.heap.size = A at hD ⊢
  have hA : ∀ q : Nat, s.heap.size ≤ q → A q := fun q h => by rw [← hAe]; exact Or.inr h
  have hl := lv_entry ([.ref a_this]) (n := 1) (Nat.le_of_ble_eq_true rfl)
  rw [lg_entry_eq]
  generalize (lg_sl ([.ref a_this]) ++ List.replicate (1 - (lg_sl ([.ref a_this])).length) Slot.unset).toArray = ls at hl ⊢
  have hl : lv_has ls 1 [(0, .ref a_this)] := hl
  exact w_X0_clear_0 ⟨B.exec, B.bytes, B.returns, hml, findClass_of_methodNamed B.named, atoms_spec (ws := wsX0_clear) B.pre, B.notSynchronized, hA⟩ hK v_cubes hf _ _ hP hD va_S.rf ls (lv_sub hl [0] rfl)
-- X0.chooseBox(III)V: 10 instructions
theorem in_X0_chooseBox_X0 : ∀ w ∈ wsX00, w ∈ wsX0_chooseBox := by decide +kernel
abbrev ws_X0_chooseBox (cB cI cJ cZ : ClassId) (a_this a_sets : Nat) (v_cubes : Int32) (v_width : Int32) (v_height : Int32) (v_depth : Int32) (v_setCount : Int32) (v_roomIsShort : Int32) : va_W := [(a_this, .inr (1, [.ref a_sets, .int v_cubes, .int v_width, .int v_height, .int v_depth, .int v_setCount, .int v_roomIsShort]))]
abbrev rm_X0_chooseBox : Room := { frames := 0, cells := 0, slots := 0, locals := 0 }
theorem lk_X0_chooseBox_f25 : Cond.fieldLink RX0 25 "LinkedCovers$Piece" "width" "I" ∈ wsX0_chooseBox := by decide +kernel
theorem lk_X0_chooseBox_f28 : Cond.fieldLink RX0 28 "LinkedCovers$Piece" "height" "I" ∈ wsX0_chooseBox := by decide +kernel
theorem lk_X0_chooseBox_f31 : Cond.fieldLink RX0 31 "LinkedCovers$Piece" "depth" "I" ∈ wsX0_chooseBox := by decide +kernel
def f_X0_chooseBox   (v_width : Int32) (v_height : Int32) (v_depth : Int32) (x1 : Int32) (x2 : Int32) (x3 : Int32) : Option (Int32 × Int32 × Int32) :=
  some ((x1, x2, x3))
abbrev qc_X0_chooseBox (A : Nat → Prop) (dC : Nat → ClassId) (dI : Nat → Nat → Nat) (cB cI cJ cZ : ClassId) (a_this a_sets : Nat) (v_cubes : Int32) (v_setCount : Int32) (v_roomIsShort : Int32) (out : Int32 × Int32 × Int32) : Array Value → State → Outcome → State → Prop := va_Qv (fun u : Int32 × Int32 × Int32 => u = out) (fun (u : Int32 × Int32 × Int32) (t : State) => va_P (dC, dI) vwCl (ws_X0_chooseBox cB cI cJ cZ a_this a_sets v_cubes u.1 u.2.1 u.2.2 v_setCount v_roomIsShort) t.heap ∧ va_K (dC, dI) vwCl (tysG cB cI cJ cZ) t ∧ va_D A (ws_X0_chooseBox cB cI cJ cZ a_this a_sets v_cubes u.1 u.2.1 u.2.2 v_setCount v_roomIsShort)) A
abbrev g_X0_chooseBox_0 (p : Program) (l : Launch) (e : Env) (s : State) (m : MethodId) (args : Array Value) (below : List Frame) (meth : Method) (c : Code) (A : Nat → Prop) (dC : Nat → ClassId) (dI : Nat → Nat → Nat) (cB cI cJ cZ : ClassId) (a_this a_sets : Nat) (v_cubes : Int32) (v_setCount : Int32) (v_roomIsShort : Int32) (out : Int32 × Int32 × Int32) (k : Int32 → Int32 → Int32 → Int32 → Int32 → Int32 → Option (Int32 × Int32 × Int32)) : Prop := ∀ (v_width : Int32) (v_height : Int32) (v_depth : Int32) (x1 : Int32) (x2 : Int32) (x3 : Int32), k v_width v_height v_depth x1 x2 x3 = some out → ∀ (H : Heap) (locs : List Loc), va_P (dC, dI) vwCl (ws_X0_chooseBox cB cI cJ cZ a_this a_sets v_cubes v_width v_height v_depth v_setCount v_roomIsShort) H → va_D A (ws_X0_chooseBox cB cI cJ cZ a_this a_sets v_cubes v_width v_height v_depth v_setCount v_roomIsShort) → va_S A s.heap H locs → ∀ (ls : Array Slot), lv_has ls 4 [(0, .ref a_this), (1, .int x1), (2, .int x2), (3, .int x3)] → W p l e (headSpec wsX0_chooseBox rm_X0_chooseBox).room s m args below meth c H locs 0 0 (MQ below (qc_X0_chooseBox A dC dI cB cI cJ cZ a_this a_sets v_cubes v_setCount v_roomIsShort out) args s 0 0 A) (F0 m 0 ls [])
set_option maxHeartbeats 4000000 in
set_option maxRecDepth 100000 in
theorem w_X0_chooseBox_0 {p : Program} {l : Launch} {e : Env} {s : State} {m : MethodId} {args : Array Value} {below : List Frame} {meth : Method} {c : Code} {A : Nat → Prop} {dC : Nat → ClassId} {dI : Nat → Nat → Nat} {cB cI cJ cZ : ClassId} {a_this a_sets : Nat} {v_cubes : Int32} {v_setCount : Int32} {v_roomIsShort : Int32} {out : Int32 × Int32 × Int32} (C0 : Cx RX0 cX0_chooseBox none 4 wsX0_chooseBox p s m args meth c A) (hK : va_K (dC, dI) vwCl (tysG cB cI cJ cZ) s)  : g_X0_chooseBox_0 p l e s m args below meth c A dC dI cB cI cJ cZ a_this a_sets v_cubes v_setCount v_roomIsShort out (f_X0_chooseBox  ) := by
  obtain ⟨hx, hb, hr, hml, hown, hts, hlocks, hA⟩ := id C0
  intro v_width v_height v_depth x1 x2 x3 hf H locs hP hD hS ls hl
  replace hf : ((some ((x1, x2, x3))) : Option (Int32 × Int32 × Int32)) = some out := hf
  refine lv_aload_n hx hb dX0_chooseBox_0 rfl (lv_at hl 0 rfl) ?_
  refine lv_iload_n hx hb dX0_chooseBox_1 rfl (lv_at hl 1 rfl) ?_
  refine va_put (D := (dC, dI)) (ci := 1) (v := .int x1) (ty := .int) (C := RX0) (T := TX0) (N := 7) hx hb hts in_X0_chooseBox_X0 tyX0 tyX0_ok nmX0 hown hK hP hD hS 0 rfl rfl 2 (by decide) (hts (.fieldLink RX0 25 "LinkedCovers$Piece" "width" "I") lk_X0_chooseBox_f25) (fun _ h9 => h9) rfl (by decide +kernel) rfl rfl (Nat.le_of_ble_eq_true rfl) dX0_chooseBox_2 (fun H locs hP hD hS => ?_)
  have hP : va_P (dC, dI) vwCl (ws_X0_chooseBox cB cI cJ cZ a_this a_sets v_cubes x1 v_height v_depth v_setCount v_roomIsShort) H := hP
  have hD : va_D A (ws_X0_chooseBox cB cI cJ cZ a_this a_sets v_cubes x1 v_height v_depth v_setCount v_roomIsShort) := hD
  refine lv_aload_n hx hb dX0_chooseBox_5 rfl (lv_at hl 0 rfl) ?_
  refine lv_iload_n hx hb dX0_chooseBox_6 rfl (lv_at hl 2 rfl) ?_
  refine va_put (D := (dC, dI)) (ci := 1) (v := .int x2) (ty := .int) (C := RX0) (T := TX0) (N := 7) hx hb hts in_X0_chooseBox_X0 tyX0 tyX0_ok nmX0 hown hK hP hD hS 0 rfl rfl 3 (by decide) (hts (.fieldLink RX0 28 "LinkedCovers$Piece" "height" "I") lk_X0_chooseBox_f28) (fun _ h9 => h9) rfl (by decide +kernel) rfl rfl (Nat.le_of_ble_eq_true rfl) dX0_chooseBox_7 (fun H locs hP hD hS => ?_)
  have hP : va_P (dC, dI) vwCl (ws_X0_chooseBox cB cI cJ cZ a_this a_sets v_cubes x1 x2 v_depth v_setCount v_roomIsShort) H := hP
  have hD : va_D A (ws_X0_chooseBox cB cI cJ cZ a_this a_sets v_cubes x1 x2 v_depth v_setCount v_roomIsShort) := hD
  refine lv_aload_n hx hb dX0_chooseBox_10 rfl (lv_at hl 0 rfl) ?_
  refine lv_iload_n hx hb dX0_chooseBox_11 rfl (lv_at hl 3 rfl) ?_
  refine va_put (D := (dC, dI)) (ci := 1) (v := .int x3) (ty := .int) (C := RX0) (T := TX0) (N := 7) hx hb hts in_X0_chooseBox_X0 tyX0 tyX0_ok nmX0 hown hK hP hD hS 0 rfl rfl 4 (by decide) (hts (.fieldLink RX0 31 "LinkedCovers$Piece" "depth" "I") lk_X0_chooseBox_f31) (fun _ h9 => h9) rfl (by decide +kernel) rfl rfl (Nat.le_of_ble_eq_true rfl) dX0_chooseBox_12 (fun H locs hP hD hS => ?_)
  have hP : va_P (dC, dI) vwCl (ws_X0_chooseBox cB cI cJ cZ a_this a_sets v_cubes x1 x2 x3 v_setCount v_roomIsShort) H := hP
  have hD : va_D A (ws_X0_chooseBox cB cI cJ cZ a_this a_sets v_cubes x1 x2 x3 v_setCount v_roomIsShort) := hD
  exact W.vret hx hb hr (fun t ht hW => ⟨⟨(x1, x2, x3), rfl, Option.some.inj hf, by rw [ht]; exact hP, va_K.moved hW.alike hK, hD⟩, hS.F ht⟩) hS.2.2 dX0_chooseBox_15
theorem nd_X0_chooseBox : yX0_chooseBox.cls ≠ "java/lang/invoke/MethodHandle" ∧ yX0_chooseBox.cls ≠ "java/lang/invoke/VarHandle" ∧ (parseMethodDescriptor yX0_chooseBox.desc).map (fun d => d.parameters.length) = some 3 := by decide +kernel
set_option maxHeartbeats 4000000 in
set_option maxRecDepth 100000 in
theorem c_X0_chooseBox (l : Launch) (dC : Nat → ClassId) (dI : Nat → Nat → Nat) (cB cI cJ cZ : ClassId) (a_this a_sets : Nat) (sz : Nat) (v_cubes : Int32) (v_width : Int32) (v_height : Int32) (v_depth : Int32) (v_setCount : Int32) (v_roomIsShort : Int32) (x1 : Int32) (x2 : Int32) (x3 : Int32) (out : Int32 × Int32 × Int32) (hf : f_X0_chooseBox  v_width v_height v_depth x1 x2 x3 = some out) : Met l yX0_chooseBox wsX0_chooseBox rm_X0_chooseBox (va_Pc [.ref a_this, .int x1, .int x2, .int x3] (fun U => U.heap.size = sz ∧ va_P (dC, dI) vwCl (ws_X0_chooseBox cB cI cJ cZ a_this a_sets v_cubes v_width v_height v_depth v_setCount v_roomIsShort) U.heap ∧ va_K (dC, dI) vwCl (tysG cB cI cJ cZ) U ∧ va_D (fun _ => True) (ws_X0_chooseBox cB cI cJ cZ a_this a_sets v_cubes v_width v_height v_depth v_setCount v_roomIsShort))) (qc_X0_chooseBox (va_A (ws_X0_chooseBox cB cI cJ cZ a_this a_sets v_cubes v_width v_height v_depth v_setCount v_roomIsShort) sz) dC dI cB cI cJ cZ a_this a_sets v_cubes v_setCount v_roomIsShort out) 0 0 (va_A (ws_X0_chooseBox cB cI cJ cZ a_this a_sets v_cubes v_width v_height v_depth v_setCount v_roomIsShort) sz) := by
  refine Met.ofW (cc := cX0_chooseBox) (maxL := 4) (ret := none) (by decide) rfl ?_
  intro p e s m args below meth c s₁ B hml hv
  obtain ⟨rfl, hsz, hP, hK, hD0⟩ := hv
  subst hsz
  have hD := hD0.self (sz := s.heap.size)
  generalize hAe : va_A (ws_X0_chooseBox cB cI cJ cZ a_this a_sets v_cubes v_width v_height v_depth v_setCount v_roomIsShort) s.heap.size = A at hD ⊢
  have hA : ∀ q : Nat, s.heap.size ≤ q → A q := fun q h => by rw [← hAe]; exact Or.inr h
  have hl := lv_entry ([.ref a_this, .int x1, .int x2, .int x3]) (n := 4) (Nat.le_of_ble_eq_true rfl)
  rw [lg_entry_eq]
  generalize (lg_sl ([.ref a_this, .int x1, .int x2, .int x3]) ++ List.replicate (4 - (lg_sl ([.ref a_this, .int x1, .int x2, .int x3])).length) Slot.unset).toArray = ls at hl ⊢
  have hl : lv_has ls 4 [(0, .ref a_this), (1, .int x1), (2, .int x2), (3, .int x3)] := hl
  exact w_X0_chooseBox_0 ⟨B.exec, B.bytes, B.returns, hml, findClass_of_methodNamed B.named, atoms_spec (ws := wsX0_chooseBox) B.pre, B.notSynchronized, hA⟩ hK v_width v_height v_depth x1 x2 x3 hf _ _ hP hD va_S.rf ls (lv_sub hl [0, 1, 2, 3] rfl)
-- X0.isTurn(II)Z: 23 instructions
abbrev ws_X0_isTurn (cB cI cJ cZ : ClassId)  : va_W := []
abbrev rm_X0_isTurn : Room := { frames := 1, cells := 0, slots := 0, locals := 20 }
def f_X0_isTurn_36   (y0 : Int32) : Option (Int32 × Unit) :=
  if ¬ (y0 = 0 ∨ y0 = 1) then none else
  some ((y0, ()))
def f_X0_isTurn_25   (x2 : Int32) (y0 : Int32) : Option (Int32 × Unit) :=
  if x2 = y0 then
  (f_X0_isTurn_36 (1 : Int32))
  else
  (f_X0_isTurn_36 (0 : Int32))
def f_X0_isTurn_10   (x1 : Int32) (y0 : Int32) : Option (Int32 × Unit) :=
  (f_J6_bitCount_0f7a4 x1).bind (fun o_3 =>
  if (o_3.1 &&& (1 : Int32)) = 0 then
  (f_X0_isTurn_25 y0 (0 : Int32))
  else
  (f_X0_isTurn_25 y0 (1 : Int32)))
def f_X0_isTurn   (x0 : Int32) (x1 : Int32) : Option (Int32 × Unit) :=
  if x0 < (3 : Int32) then
  (f_X0_isTurn_10 x1 (0 : Int32))
  else
  (f_X0_isTurn_10 x1 (1 : Int32))
abbrev qc_X0_isTurn (A : Nat → Prop) (dC : Nat → ClassId) (dI : Nat → Nat → Nat) (cB cI cJ cZ : ClassId)  (out : Int32 × Unit) : Array Value → State → Outcome → State → Prop := va_Qi (fun (r : Int32) (u : Unit) => r = out.1 ∧ u = out.2) (fun (u : Unit) (t : State) => va_P (dC, dI) vwCl (ws_X0_isTurn cB cI cJ cZ  ) t.heap ∧ va_K (dC, dI) vwCl (tysG cB cI cJ cZ) t ∧ va_D A (ws_X0_isTurn cB cI cJ cZ  )) A
abbrev g_X0_isTurn_36 (p : Program) (l : Launch) (e : Env) (s : State) (m : MethodId) (args : Array Value) (below : List Frame) (meth : Method) (c : Code) (A : Nat → Prop) (dC : Nat → ClassId) (dI : Nat → Nat → Nat) (cB cI cJ cZ : ClassId)  (out : Int32 × Unit) (k : Int32 → Option (Int32 × Unit)) : Prop := ∀ (y0 : Int32), k y0 = some out → ∀ (H : Heap) (locs : List Loc), va_P (dC, dI) vwCl (ws_X0_isTurn cB cI cJ cZ  ) H → va_D A (ws_X0_isTurn cB cI cJ cZ  ) → va_S A s.heap H locs → ∀ (ls : Array Slot), lv_has ls 4 [] → W p l e (headSpec wsX0_isTurn rm_X0_isTurn).room s m args below meth c H locs 0 0 (MQ below (qc_X0_isTurn A dC dI cB cI cJ cZ   out) args s 0 0 A) (F0 m 36 ls [.int y0])
abbrev g_X0_isTurn_25 (p : Program) (l : Launch) (e : Env) (s : State) (m : MethodId) (args : Array Value) (below : List Frame) (meth : Method) (c : Code) (A : Nat → Prop) (dC : Nat → ClassId) (dI : Nat → Nat → Nat) (cB cI cJ cZ : ClassId)  (out : Int32 × Unit) (k : Int32 → Int32 → Option (Int32 × Unit)) : Prop := ∀ (x2 : Int32) (y0 : Int32), k x2 y0 = some out → ∀ (H : Heap) (locs : List Loc), va_P (dC, dI) vwCl (ws_X0_isTurn cB cI cJ cZ  ) H → va_D A (ws_X0_isTurn cB cI cJ cZ  ) → va_S A s.heap H locs → ∀ (ls : Array Slot), lv_has ls 4 [(2, .int x2)] → W p l e (headSpec wsX0_isTurn rm_X0_isTurn).room s m args below meth c H locs 0 0 (MQ below (qc_X0_isTurn A dC dI cB cI cJ cZ   out) args s 0 0 A) (F0 m 25 ls [.int y0])
abbrev g_X0_isTurn_10 (p : Program) (l : Launch) (e : Env) (s : State) (m : MethodId) (args : Array Value) (below : List Frame) (meth : Method) (c : Code) (A : Nat → Prop) (dC : Nat → ClassId) (dI : Nat → Nat → Nat) (cB cI cJ cZ : ClassId)  (out : Int32 × Unit) (k : Int32 → Int32 → Option (Int32 × Unit)) : Prop := ∀ (x1 : Int32) (y0 : Int32), k x1 y0 = some out → ∀ (H : Heap) (locs : List Loc), va_P (dC, dI) vwCl (ws_X0_isTurn cB cI cJ cZ  ) H → va_D A (ws_X0_isTurn cB cI cJ cZ  ) → va_S A s.heap H locs → ∀ (ls : Array Slot), lv_has ls 4 [(1, .int x1)] → W p l e (headSpec wsX0_isTurn rm_X0_isTurn).room s m args below meth c H locs 0 0 (MQ below (qc_X0_isTurn A dC dI cB cI cJ cZ   out) args s 0 0 A) (F0 m 10 ls [.int y0])
abbrev g_X0_isTurn_0 (p : Program) (l : Launch) (e : Env) (s : State) (m : MethodId) (args : Array Value) (below : List Frame) (meth : Method) (c : Code) (A : Nat → Prop) (dC : Nat → ClassId) (dI : Nat → Nat → Nat) (cB cI cJ cZ : ClassId)  (out : Int32 × Unit) (k : Int32 → Int32 → Option (Int32 × Unit)) : Prop := ∀ (x0 : Int32) (x1 : Int32), k x0 x1 = some out → ∀ (H : Heap) (locs : List Loc), va_P (dC, dI) vwCl (ws_X0_isTurn cB cI cJ cZ  ) H → va_D A (ws_X0_isTurn cB cI cJ cZ  ) → va_S A s.heap H locs → ∀ (ls : Array Slot), lv_has ls 4 [(0, .int x0), (1, .int x1)] → W p l e (headSpec wsX0_isTurn rm_X0_isTurn).room s m args below meth c H locs 0 0 (MQ below (qc_X0_isTurn A dC dI cB cI cJ cZ   out) args s 0 0 A) (F0 m 0 ls [])
set_option maxHeartbeats 4000000 in
set_option maxRecDepth 100000 in
theorem w_X0_isTurn_36 {p : Program} {l : Launch} {e : Env} {s : State} {m : MethodId} {args : Array Value} {below : List Frame} {meth : Method} {c : Code} {A : Nat → Prop} {dC : Nat → ClassId} {dI : Nat → Nat → Nat} {cB cI cJ cZ : ClassId}  {out : Int32 × Unit} (C0 : Cx RX0 cX0_isTurn (some .boolean) 4 wsX0_isTurn p s m args meth c A) (hK : va_K (dC, dI) vwCl (tysG cB cI cJ cZ) s)  : g_X0_isTurn_36 p l e s m args below meth c A dC dI cB cI cJ cZ   out (f_X0_isTurn_36  ) := by
  obtain ⟨hx, hb, hr, hml, hown, hts, hlocks, hA⟩ := id C0
  intro y0 hf H locs hP hD hS ls hl
  replace hf : ((if ¬ (y0 = 0 ∨ y0 = 1) then none else
  some ((y0, ()))) : Option (Int32 × Unit)) = some out := hf
  obtain ⟨h_1, hf⟩ := gd_ck hf
  have h9 := Option.some.inj hf
  have h8 := congrArg Prod.fst h9
  have h7 := congrArg Prod.snd h9
  exact W.zret (v := y0) hx hb hr (gd_z h_1) (fun t ht hW => ⟨⟨y0, (), rfl, ⟨h8, h7⟩, by rw [ht]; exact hP, va_K.moved hW.alike hK, hD⟩, hS.F ht⟩) hS.2.2 dX0_isTurn_36
set_option maxHeartbeats 4000000 in
set_option maxRecDepth 100000 in
theorem w_X0_isTurn_25 {p : Program} {l : Launch} {e : Env} {s : State} {m : MethodId} {args : Array Value} {below : List Frame} {meth : Method} {c : Code} {A : Nat → Prop} {dC : Nat → ClassId} {dI : Nat → Nat → Nat} {cB cI cJ cZ : ClassId}  {out : Int32 × Unit} (C0 : Cx RX0 cX0_isTurn (some .boolean) 4 wsX0_isTurn p s m args meth c A) (hK : va_K (dC, dI) vwCl (tysG cB cI cJ cZ) s)  : g_X0_isTurn_25 p l e s m args below meth c A dC dI cB cI cJ cZ   out (f_X0_isTurn_25  ) := by
  obtain ⟨hx, hb, hr, hml, hown, hts, hlocks, hA⟩ := id C0
  intro x2 y0 hf H locs hP hD hS ls hl
  replace hf : ((if x2 = y0 then
  (f_X0_isTurn_36 (1 : Int32))
  else
  (f_X0_isTurn_36 (0 : Int32))) : Option (Int32 × Unit)) = some out := hf
  refine lv_istore_n (lv' := [(3, .int y0), (2, .int x2)]) hx hb dX0_isTurn_25 rfl hl (by decide) rfl (fun ls hl => ?_)
  refine lv_iload_n hx hb dX0_isTurn_26 rfl (lv_at hl 1 rfl) ?_
  refine lv_iload_n hx hb dX0_isTurn_27 rfl (lv_at hl 0 rfl) ?_
  refine lv_icmp_ne (tgt := 35) hx hb dX0_isTurn_28 (by decide) (fun c_2 => ?_) (fun c_2 => ?_)
  · replace hf := (if_neg c_2).symm.trans hf
    refine lv_iconst (v := 0) hx hb dX0_isTurn_35 (by decide) ?_
    exact w_X0_isTurn_36 C0 hK (0 : Int32) hf _ _ hP hD hS ls (lv_sub hl [] rfl)
  · replace hf := (if_pos c_2).symm.trans hf
    refine lv_iconst (v := 1) hx hb dX0_isTurn_31 (by decide) ?_
    refine lv_goto (tgt := 36) hx hb dX0_isTurn_32 (by decide) ?_
    exact w_X0_isTurn_36 C0 hK (1 : Int32) hf _ _ hP hD hS ls (lv_sub hl [] rfl)
set_option maxHeartbeats 4000000 in
set_option maxRecDepth 100000 in
theorem w_X0_isTurn_10 {p : Program} {l : Launch} {e : Env} {s : State} {m : MethodId} {args : Array Value} {below : List Frame} {meth : Method} {c : Code} {A : Nat → Prop} {dC : Nat → ClassId} {dI : Nat → Nat → Nat} {cB cI cJ cZ : ClassId}  {out : Int32 × Unit} (C0 : Cx RX0 cX0_isTurn (some .boolean) 4 wsX0_isTurn p s m args meth c A) (hK : va_K (dC, dI) vwCl (tysG cB cI cJ cZ) s)  : g_X0_isTurn_10 p l e s m args below meth c A dC dI cB cI cJ cZ   out (f_X0_isTurn_10  ) := by
  obtain ⟨hx, hb, hr, hml, hown, hts, hlocks, hA⟩ := id C0
  intro x1 y0 hf H locs hP hD hS ls hl
  replace hf : (((f_J6_bitCount_0f7a4 x1).bind (fun o_3 =>
  if (o_3.1 &&& (1 : Int32)) = 0 then
  (f_X0_isTurn_25 y0 (0 : Int32))
  else
  (f_X0_isTurn_25 y0 (1 : Int32)))) : Option (Int32 × Unit)) = some out := hf
  refine lv_istore_n (lv' := [(2, .int y0), (1, .int x1)]) hx hb dX0_isTurn_10 rfl hl (by decide) rfl (fun ls hl => ?_)
  refine lv_iload_n hx hb dX0_isTurn_11 rfl (lv_at hl 1 rfl) ?_
  obtain ⟨o_3, ho_3, hf⟩ := gd_bd hf
  have hPc := hP.sub (ws' := ws_J6_bitCount_0f7a4 cB cI cJ cZ  ) [] rfl
  have hDc := hD.sub (ws' := ws_J6_bitCount_0f7a4 cB cI cJ cZ  ) [] (by decide) rfl
  have hFc := va_free (wc := ws_J6_bitCount_0f7a4 cB cI cJ cZ  ) hD hS hA [] rfl
  refine va_calli (va_runS (As := [.int x1]) (rest := []) ⟨hx, hb, hml, hown, hts⟩ (c_J6_bitCount_0f7a4 l dC dI cB cI cJ cZ H.size x1 o_3 ho_3) (va_cwS 1 hts gX0_isTurn_J6_bitCount_0f7a4 rfl rfl rfl nd_J6_bitCount_0f7a4 ⟨Nat.le_of_ble_eq_true rfl, Nat.le_of_ble_eq_true rfl⟩) ⟨fun a U g mk q => by obtain ⟨q0, q1, qP, qK, qD⟩ := q; exact ⟨q0, q1, qP, va_K.moved (u := U) (U := U.calling g mk a) (Vm.Alike.refl U.vm) qK, qD⟩, fun U hU hW => ⟨rfl, by rw [hU], by rw [hU]; exact hPc, va_K.moved hW.alike hK, hDc.weaken (fun _ _ _ _ => trivial)⟩⟩ rfl rfl hl.1 rfl (lv_room (Nat.le_of_ble_eq_true rfl)) dX0_isTurn_12 ⟨Nat.le_of_ble_eq_true rfl, Nat.le_of_ble_eq_true rfl⟩) hS (fun q _ h => hFc q h) hFc (fun r_3 u_3 t H1 locs ht hvm hw hB hz1 hk1 hS => ?_)
  obtain ⟨rfl, rfl⟩ := hw
  obtain ⟨hP1, hK1, hD1⟩ := hB
  rw [ht] at hP1
  obtain ⟨hP, hD⟩ := va_join (wr := []) (w1 := ws_J6_bitCount_0f7a4 cB cI cJ cZ  ) hP hD [] [] rfl rfl (by decide) (by decide) hk1 hFc hP1 hD1
  generalize H1 = H at hP hS ⊢
  have hP : va_P (dC, dI) vwCl (ws_X0_isTurn cB cI cJ cZ  ) H := hP.sub [] rfl
  have hD : va_D A (ws_X0_isTurn cB cI cJ cZ  ) := hD.sub [] (by decide) rfl
  refine lv_iconst (v := 1) hx hb dX0_isTurn_15 (by decide) ?_
  refine lv_iand hx hb dX0_isTurn_16 ?_
  refine lv_if_eq (tgt := 24) hx hb dX0_isTurn_17 (by decide) (fun c_4 => ?_) (fun c_4 => ?_)
  · replace hf := (if_pos c_4).symm.trans hf
    refine lv_iconst (v := 0) hx hb dX0_isTurn_24 (by decide) ?_
    exact w_X0_isTurn_25 C0 hK y0 (0 : Int32) hf _ _ hP hD hS ls (lv_sub hl [0] rfl)
  · replace hf := (if_neg c_4).symm.trans hf
    refine lv_iconst (v := 1) hx hb dX0_isTurn_20 (by decide) ?_
    refine lv_goto (tgt := 25) hx hb dX0_isTurn_21 (by decide) ?_
    exact w_X0_isTurn_25 C0 hK y0 (1 : Int32) hf _ _ hP hD hS ls (lv_sub hl [0] rfl)
set_option maxHeartbeats 4000000 in
set_option maxRecDepth 100000 in
theorem w_X0_isTurn_0 {p : Program} {l : Launch} {e : Env} {s : State} {m : MethodId} {args : Array Value} {below : List Frame} {meth : Method} {c : Code} {A : Nat → Prop} {dC : Nat → ClassId} {dI : Nat → Nat → Nat} {cB cI cJ cZ : ClassId}  {out : Int32 × Unit} (C0 : Cx RX0 cX0_isTurn (some .boolean) 4 wsX0_isTurn p s m args meth c A) (hK : va_K (dC, dI) vwCl (tysG cB cI cJ cZ) s)  : g_X0_isTurn_0 p l e s m args below meth c A dC dI cB cI cJ cZ   out (f_X0_isTurn  ) := by
  obtain ⟨hx, hb, hr, hml, hown, hts, hlocks, hA⟩ := id C0
  intro x0 x1 hf H locs hP hD hS ls hl
  replace hf : ((if x0 < (3 : Int32) then
  (f_X0_isTurn_10 x1 (0 : Int32))
  else
  (f_X0_isTurn_10 x1 (1 : Int32))) : Option (Int32 × Unit)) = some out := hf
  refine lv_iload_n hx hb dX0_isTurn_0 rfl (lv_at hl 0 rfl) ?_
  refine lv_iconst (v := 3) hx hb dX0_isTurn_1 (by decide) ?_
  refine lv_icmp_lt (tgt := 9) hx hb dX0_isTurn_2 (by decide) (fun c_5 => ?_) (fun c_5 => ?_)
  · replace hf := (if_pos c_5).symm.trans hf
    refine lv_iconst (v := 0) hx hb dX0_isTurn_9 (by decide) ?_
    exact w_X0_isTurn_10 C0 hK x1 (0 : Int32) hf _ _ hP hD hS ls (lv_sub hl [1] rfl)
  · replace hf := (if_neg c_5).symm.trans hf
    refine lv_iconst (v := 1) hx hb dX0_isTurn_5 (by decide) ?_
    refine lv_goto (tgt := 10) hx hb dX0_isTurn_6 (by decide) ?_
    exact w_X0_isTurn_10 C0 hK x1 (1 : Int32) hf _ _ hP hD hS ls (lv_sub hl [1] rfl)
theorem nd_X0_isTurn : yX0_isTurn.cls ≠ "java/lang/invoke/MethodHandle" ∧ yX0_isTurn.cls ≠ "java/lang/invoke/VarHandle" ∧ (parseMethodDescriptor yX0_isTurn.desc).map (fun d => d.parameters.length) = some 2 := by decide +kernel
set_option maxHeartbeats 4000000 in
set_option maxRecDepth 100000 in
theorem c_X0_isTurn (l : Launch) (dC : Nat → ClassId) (dI : Nat → Nat → Nat) (cB cI cJ cZ : ClassId) (sz : Nat)  (x0 : Int32) (x1 : Int32) (out : Int32 × Unit) (hf : f_X0_isTurn  x0 x1 = some out) : Met l yX0_isTurn wsX0_isTurn rm_X0_isTurn (va_Pc [.int x0, .int x1] (fun U => U.heap.size = sz ∧ va_P (dC, dI) vwCl (ws_X0_isTurn cB cI cJ cZ  ) U.heap ∧ va_K (dC, dI) vwCl (tysG cB cI cJ cZ) U ∧ va_D (fun _ => True) (ws_X0_isTurn cB cI cJ cZ  ))) (qc_X0_isTurn (va_A (ws_X0_isTurn cB cI cJ cZ  ) sz) dC dI cB cI cJ cZ   out) 0 0 (va_A (ws_X0_isTurn cB cI cJ cZ  ) sz) := by
  refine Met.ofW (cc := cX0_isTurn) (maxL := 4) (ret := (some .boolean)) (by decide) rfl ?_
  intro p e s m args below meth c s₁ B hml hv
  obtain ⟨rfl, hsz, hP, hK, hD0⟩ := hv
  subst hsz
  have hD := hD0.self (sz := s.heap.size)
  generalize hAe : va_A (ws_X0_isTurn cB cI cJ cZ  ) s.heap.size = A at hD ⊢
  have hA : ∀ q : Nat, s.heap.size ≤ q → A q := fun q h => by rw [← hAe]; exact Or.inr h
  have hl := lv_entry ([.int x0, .int x1]) (n := 4) (Nat.le_of_ble_eq_true rfl)
  rw [lg_entry_eq]
  generalize (lg_sl ([.int x0, .int x1]) ++ List.replicate (4 - (lg_sl ([.int x0, .int x1])).length) Slot.unset).toArray = ls at hl ⊢
  have hl : lv_has ls 4 [(0, .int x0), (1, .int x1)] := hl
  exact w_X0_isTurn_0 ⟨B.exec, B.bytes, B.returns, hml, findClass_of_methodNamed B.named, atoms_spec (ws := wsX0_isTurn) B.pre, B.notSynchronized, hA⟩ hK x0 x1 hf _ _ hP hD va_S.rf ls (lv_sub hl [0, 1] rfl)
-- X0.placeOn(II)I: 19 instructions
abbrev ws_X0_placeOn (cB cI cJ cZ : ClassId)  : va_W := []
abbrev rm_X0_placeOn : Room := { frames := 0, cells := 0, slots := 0, locals := 0 }
def f_X0_placeOn_25   (y0 : Int32) : Option (Int32 × Unit) :=
  some ((y0, ()))
def f_X0_placeOn   (x0 : Int32) (x1 : Int32) : Option (Int32 × Unit) :=
  if x1 = 0 then
  (some (((x0 - x0 / (3 : Int32) * (3 : Int32)), ())))
  else
  (if x1 = (1 : Int32) then
  (f_X0_placeOn_25 ((x0 / (3 : Int32)) - (x0 / (3 : Int32)) / (3 : Int32) * (3 : Int32)))
  else
  (f_X0_placeOn_25 (x0 / (9 : Int32))))
abbrev qc_X0_placeOn (A : Nat → Prop) (dC : Nat → ClassId) (dI : Nat → Nat → Nat) (cB cI cJ cZ : ClassId)  (out : Int32 × Unit) : Array Value → State → Outcome → State → Prop := va_Qi (fun (r : Int32) (u : Unit) => r = out.1 ∧ u = out.2) (fun (u : Unit) (t : State) => va_P (dC, dI) vwCl (ws_X0_placeOn cB cI cJ cZ  ) t.heap ∧ va_K (dC, dI) vwCl (tysG cB cI cJ cZ) t ∧ va_D A (ws_X0_placeOn cB cI cJ cZ  )) A
abbrev g_X0_placeOn_25 (p : Program) (l : Launch) (e : Env) (s : State) (m : MethodId) (args : Array Value) (below : List Frame) (meth : Method) (c : Code) (A : Nat → Prop) (dC : Nat → ClassId) (dI : Nat → Nat → Nat) (cB cI cJ cZ : ClassId)  (out : Int32 × Unit) (k : Int32 → Option (Int32 × Unit)) : Prop := ∀ (y0 : Int32), k y0 = some out → ∀ (H : Heap) (locs : List Loc), va_P (dC, dI) vwCl (ws_X0_placeOn cB cI cJ cZ  ) H → va_D A (ws_X0_placeOn cB cI cJ cZ  ) → va_S A s.heap H locs → ∀ (ls : Array Slot), lv_has ls 2 [] → W p l e (headSpec wsX0_placeOn rm_X0_placeOn).room s m args below meth c H locs 0 0 (MQ below (qc_X0_placeOn A dC dI cB cI cJ cZ   out) args s 0 0 A) (F0 m 25 ls [.int y0])
abbrev g_X0_placeOn_0 (p : Program) (l : Launch) (e : Env) (s : State) (m : MethodId) (args : Array Value) (below : List Frame) (meth : Method) (c : Code) (A : Nat → Prop) (dC : Nat → ClassId) (dI : Nat → Nat → Nat) (cB cI cJ cZ : ClassId)  (out : Int32 × Unit) (k : Int32 → Int32 → Option (Int32 × Unit)) : Prop := ∀ (x0 : Int32) (x1 : Int32), k x0 x1 = some out → ∀ (H : Heap) (locs : List Loc), va_P (dC, dI) vwCl (ws_X0_placeOn cB cI cJ cZ  ) H → va_D A (ws_X0_placeOn cB cI cJ cZ  ) → va_S A s.heap H locs → ∀ (ls : Array Slot), lv_has ls 2 [(0, .int x0), (1, .int x1)] → W p l e (headSpec wsX0_placeOn rm_X0_placeOn).room s m args below meth c H locs 0 0 (MQ below (qc_X0_placeOn A dC dI cB cI cJ cZ   out) args s 0 0 A) (F0 m 0 ls [])
set_option maxHeartbeats 4000000 in
set_option maxRecDepth 100000 in
theorem w_X0_placeOn_25 {p : Program} {l : Launch} {e : Env} {s : State} {m : MethodId} {args : Array Value} {below : List Frame} {meth : Method} {c : Code} {A : Nat → Prop} {dC : Nat → ClassId} {dI : Nat → Nat → Nat} {cB cI cJ cZ : ClassId}  {out : Int32 × Unit} (C0 : Cx RX0 cX0_placeOn (some .int) 2 wsX0_placeOn p s m args meth c A) (hK : va_K (dC, dI) vwCl (tysG cB cI cJ cZ) s)  : g_X0_placeOn_25 p l e s m args below meth c A dC dI cB cI cJ cZ   out (f_X0_placeOn_25  ) := by
  obtain ⟨hx, hb, hr, hml, hown, hts, hlocks, hA⟩ := id C0
  intro y0 hf H locs hP hD hS ls hl
  replace hf : ((some ((y0, ()))) : Option (Int32 × Unit)) = some out := hf
  have h9 := Option.some.inj hf
  have h8 := congrArg Prod.fst h9
  have h7 := congrArg Prod.snd h9
  exact W.iret (v := y0) hx hb hr (fun t ht hW => ⟨⟨y0, (), rfl, ⟨h8, h7⟩, by rw [ht]; exact hP, va_K.moved hW.alike hK, hD⟩, hS.F ht⟩) hS.2.2 dX0_placeOn_25
set_option maxHeartbeats 4000000 in
set_option maxRecDepth 100000 in
theorem w_X0_placeOn_0 {p : Program} {l : Launch} {e : Env} {s : State} {m : MethodId} {args : Array Value} {below : List Frame} {meth : Method} {c : Code} {A : Nat → Prop} {dC : Nat → ClassId} {dI : Nat → Nat → Nat} {cB cI cJ cZ : ClassId}  {out : Int32 × Unit} (C0 : Cx RX0 cX0_placeOn (some .int) 2 wsX0_placeOn p s m args meth c A) (hK : va_K (dC, dI) vwCl (tysG cB cI cJ cZ) s)  : g_X0_placeOn_0 p l e s m args below meth c A dC dI cB cI cJ cZ   out (f_X0_placeOn  ) := by
  obtain ⟨hx, hb, hr, hml, hown, hts, hlocks, hA⟩ := id C0
  intro x0 x1 hf H locs hP hD hS ls hl
  replace hf : ((if x1 = 0 then
  (some (((x0 - x0 / (3 : Int32) * (3 : Int32)), ())))
  else
  (if x1 = (1 : Int32) then
  (f_X0_placeOn_25 ((x0 / (3 : Int32)) - (x0 / (3 : Int32)) / (3 : Int32) * (3 : Int32)))
  else
  (f_X0_placeOn_25 (x0 / (9 : Int32))))) : Option (Int32 × Unit)) = some out := hf
  refine lv_iload_n hx hb dX0_placeOn_0 rfl (lv_at hl 1 rfl) ?_
  refine lv_if_ne (tgt := 8) hx hb dX0_placeOn_1 (by decide) (fun c_1 => ?_) (fun c_1 => ?_)
  · replace hf := (if_neg c_1).symm.trans hf
    refine lv_iload_n hx hb dX0_placeOn_8 rfl (lv_at hl 1 rfl) ?_
    refine lv_iconst (v := 1) hx hb dX0_placeOn_9 (by decide) ?_
    refine lv_icmp_ne (tgt := 21) hx hb dX0_placeOn_10 (by decide) (fun c_2 => ?_) (fun c_2 => ?_)
    · replace hf := (if_neg c_2).symm.trans hf
      refine lv_iload_n hx hb dX0_placeOn_21 rfl (lv_at hl 0 rfl) ?_
      refine lv_bipush (v := 9) hx hb dX0_placeOn_22 (by decide) ?_
      refine lv_idiv hx hb dX0_placeOn_24 (by decide) ?_
      exact w_X0_placeOn_25 C0 hK (x0 / (9 : Int32)) hf _ _ hP hD hS ls (lv_sub hl [] rfl)
    · replace hf := (if_pos c_2).symm.trans hf
      refine lv_iload_n hx hb dX0_placeOn_13 rfl (lv_at hl 0 rfl) ?_
      refine lv_iconst (v := 3) hx hb dX0_placeOn_14 (by decide) ?_
      refine lv_idiv hx hb dX0_placeOn_15 (by decide) ?_
      refine lv_iconst (v := 3) hx hb dX0_placeOn_16 (by decide) ?_
      refine lv_irem hx hb dX0_placeOn_17 (by decide) ?_
      refine lv_goto (tgt := 25) hx hb dX0_placeOn_18 (by decide) ?_
      exact w_X0_placeOn_25 C0 hK ((x0 / (3 : Int32)) - (x0 / (3 : Int32)) / (3 : Int32) * (3 : Int32)) hf _ _ hP hD hS ls (lv_sub hl [] rfl)
  · replace hf := (if_pos c_1).symm.trans hf
    refine lv_iload_n hx hb dX0_placeOn_4 rfl (lv_at hl 0 rfl) ?_
    refine lv_iconst (v := 3) hx hb dX0_placeOn_5 (by decide) ?_
    refine lv_irem hx hb dX0_placeOn_6 (by decide) ?_
    have h9 := Option.some.inj hf
    have h8 := congrArg Prod.fst h9
    have h7 := congrArg Prod.snd h9
    exact W.iret (v := (x0 - x0 / (3 : Int32) * (3 : Int32))) hx hb hr (fun t ht hW => ⟨⟨(x0 - x0 / (3 : Int32) * (3 : Int32)), (), rfl, ⟨h8, h7⟩, by rw [ht]; exact hP, va_K.moved hW.alike hK, hD⟩, hS.F ht⟩) hS.2.2 dX0_placeOn_7
theorem nd_X0_placeOn : yX0_placeOn.cls ≠ "java/lang/invoke/MethodHandle" ∧ yX0_placeOn.cls ≠ "java/lang/invoke/VarHandle" ∧ (parseMethodDescriptor yX0_placeOn.desc).map (fun d => d.parameters.length) = some 2 := by decide +kernel
set_option maxHeartbeats 4000000 in
set_option maxRecDepth 100000 in
theorem c_X0_placeOn (l : Launch) (dC : Nat → ClassId) (dI : Nat → Nat → Nat) (cB cI cJ cZ : ClassId) (sz : Nat)  (x0 : Int32) (x1 : Int32) (out : Int32 × Unit) (hf : f_X0_placeOn  x0 x1 = some out) : Met l yX0_placeOn wsX0_placeOn rm_X0_placeOn (va_Pc [.int x0, .int x1] (fun U => U.heap.size = sz ∧ va_P (dC, dI) vwCl (ws_X0_placeOn cB cI cJ cZ  ) U.heap ∧ va_K (dC, dI) vwCl (tysG cB cI cJ cZ) U ∧ va_D (fun _ => True) (ws_X0_placeOn cB cI cJ cZ  ))) (qc_X0_placeOn (va_A (ws_X0_placeOn cB cI cJ cZ  ) sz) dC dI cB cI cJ cZ   out) 0 0 (va_A (ws_X0_placeOn cB cI cJ cZ  ) sz) := by
  refine Met.ofW (cc := cX0_placeOn) (maxL := 2) (ret := (some .int)) (by decide) rfl ?_
  intro p e s m args below meth c s₁ B hml hv
  obtain ⟨rfl, hsz, hP, hK, hD0⟩ := hv
  subst hsz
  have hD := hD0.self (sz := s.heap.size)
  generalize hAe : va_A (ws_X0_placeOn cB cI cJ cZ  ) s.heap.size = A at hD ⊢
  have hA : ∀ q : Nat, s.heap.size ≤ q → A q := fun q h => by rw [← hAe]; exact Or.inr h
  have hl := lv_entry ([.int x0, .int x1]) (n := 2) (Nat.le_of_ble_eq_true rfl)
  rw [lg_entry_eq]
  generalize (lg_sl ([.int x0, .int x1]) ++ List.replicate (2 - (lg_sl ([.int x0, .int x1])).length) Slot.unset).toArray = ls at hl ⊢
  have hl : lv_has ls 2 [(0, .int x0), (1, .int x1)] := hl
  exact w_X0_placeOn_0 ⟨B.exec, B.bytes, B.returns, hml, findClass_of_methodNamed B.named, atoms_spec (ws := wsX0_placeOn) B.pre, B.notSynchronized, hA⟩ hK x0 x1 hf _ _ hP hD va_S.rf ls (lv_sub hl [0, 1] rfl)
-- X0.setAt(IIII)I: 71 instructions
theorem in_X0_setAt_X0 : ∀ w ∈ wsX00, w ∈ wsX0_setAt := by decide +kernel
abbrev ws_X0_setAt (cB cI cJ cZ : ClassId) (a_this a_sets : Nat) (v_cubes : Int32) (v_width : Int32) (v_height : Int32) (v_depth : Int32) (v_setCount : Int32) (v_roomIsShort : Int32) : va_W := [(a_this, .inr (1, [.ref a_sets, .int v_cubes, .int v_width, .int v_height, .int v_depth, .int v_setCount, .int v_roomIsShort]))]
abbrev rm_X0_setAt : Room := { frames := 1, cells := 0, slots := 0, locals := 21 }
theorem lk_X0_setAt_f25 : Cond.fieldLink RX0 25 "LinkedCovers$Piece" "width" "I" ∈ wsX0_setAt := by decide +kernel
theorem lk_X0_setAt_f28 : Cond.fieldLink RX0 28 "LinkedCovers$Piece" "height" "I" ∈ wsX0_setAt := by decide +kernel
theorem lk_X0_setAt_f31 : Cond.fieldLink RX0 31 "LinkedCovers$Piece" "depth" "I" ∈ wsX0_setAt := by decide +kernel
def f_X0_setAt_95 (v_width : Int32) (v_height : Int32) (v_depth : Int32)   : Option (Int32 × Unit) :=
  some (((0 : Int32), ()))
def f_X0_setAt_122 (v_width : Int32) (v_height : Int32) (v_depth : Int32) (k_6 : Int32 → Int32 → Int32 → Int32 → Int32 → Int32 → Option (Int32 × Unit)) (x1 : Int32) (x2 : Int32) (x3 : Int32) (x4 : Int32) (x5 : Int32) (x6 : Int32) : Option (Int32 × Unit) :=
  k_6 x1 x2 x3 x4 x5 (x6 + 1)
def f_X0_setAt_6 (v_width : Int32) (v_height : Int32) (v_depth : Int32)  : Nat → Int32 → Int32 → Int32 → Int32 → Int32 → Int32 → Option (Int32 × Unit)
  | 0 => fun _ _ _ _ _ _ => none
  | n + 1 => fun x1 x2 x3 x4 x5 x6 => if (27 : Int32) ≤ x6 then
  (some ((x5, ())))
  else
  (if ((x1 >>> (x6 &&& 31)) &&& (1 : Int32)) = 0 then
  (f_X0_setAt_122 v_width v_height v_depth (f_X0_setAt_6 v_width v_height v_depth n) x1 x2 x3 x4 x5 x6)
  else
  ((f_X0_placeOn x6 (0 : Int32)).bind (fun o_3 =>
  (f_X0_placeOn x6 (1 : Int32)).bind (fun o_4 =>
  (f_X0_placeOn x6 (2 : Int32)).bind (fun o_5 =>
  if (o_3.1 + x2) < 0 then
  (f_X0_setAt_95 v_width v_height v_depth )
  else
  (if v_width ≤ (o_3.1 + x2) then
  (f_X0_setAt_95 v_width v_height v_depth )
  else
  (if (o_4.1 + x3) < 0 then
  (f_X0_setAt_95 v_width v_height v_depth )
  else
  (if v_height ≤ (o_4.1 + x3) then
  (f_X0_setAt_95 v_width v_height v_depth )
  else
  (if (o_5.1 + x4) < 0 then
  (f_X0_setAt_95 v_width v_height v_depth )
  else
  (if (o_5.1 + x4) < v_depth then
  (f_X0_setAt_122 v_width v_height v_depth (f_X0_setAt_6 v_width v_height v_depth n) x1 x2 x3 x4 (x5 ||| ((1 : Int32) <<< (((o_3.1 + x2) + (v_width * ((o_4.1 + x3) + (v_height * (o_5.1 + x4))))) &&& 31))) x6)
  else
  (f_X0_setAt_95 v_width v_height v_depth )))))))))))
def f_X0_setAt (v_width : Int32) (v_height : Int32) (v_depth : Int32)  (x1 : Int32) (x2 : Int32) (x3 : Int32) (x4 : Int32) : Option (Int32 × Unit) :=
  f_X0_setAt_6 v_width v_height v_depth 1000000 x1 x2 x3 x4 (0 : Int32) (0 : Int32)
abbrev qc_X0_setAt (A : Nat → Prop) (dC : Nat → ClassId) (dI : Nat → Nat → Nat) (cB cI cJ cZ : ClassId) (a_this a_sets : Nat) (v_cubes : Int32) (v_width : Int32) (v_height : Int32) (v_depth : Int32) (v_setCount : Int32) (v_roomIsShort : Int32) (out : Int32 × Unit) : Array Value → State → Outcome → State → Prop := va_Qi (fun (r : Int32) (u : Unit) => r = out.1 ∧ u = out.2) (fun (u : Unit) (t : State) => va_P (dC, dI) vwCl (ws_X0_setAt cB cI cJ cZ a_this a_sets v_cubes v_width v_height v_depth v_setCount v_roomIsShort) t.heap ∧ va_K (dC, dI) vwCl (tysG cB cI cJ cZ) t ∧ va_D A (ws_X0_setAt cB cI cJ cZ a_this a_sets v_cubes v_width v_height v_depth v_setCount v_roomIsShort)) A
abbrev g_X0_setAt_95 (p : Program) (l : Launch) (e : Env) (s : State) (m : MethodId) (args : Array Value) (below : List Frame) (meth : Method) (c : Code) (A : Nat → Prop) (dC : Nat → ClassId) (dI : Nat → Nat → Nat) (cB cI cJ cZ : ClassId) (a_this a_sets : Nat) (v_cubes : Int32) (v_width : Int32) (v_height : Int32) (v_depth : Int32) (v_setCount : Int32) (v_roomIsShort : Int32) (out : Int32 × Unit) (k : Option (Int32 × Unit)) : Prop := ∀ (_ : Unit), k = some out → ∀ (H : Heap) (locs : List Loc), va_P (dC, dI) vwCl (ws_X0_setAt cB cI cJ cZ a_this a_sets v_cubes v_width v_height v_depth v_setCount v_roomIsShort) H → va_D A (ws_X0_setAt cB cI cJ cZ a_this a_sets v_cubes v_width v_height v_depth v_setCount v_roomIsShort) → va_S A s.heap H locs → ∀ (ls : Array Slot), lv_has ls 10 [] → W p l e (headSpec wsX0_setAt rm_X0_setAt).room s m args below meth c H locs 0 0 (MQ below (qc_X0_setAt A dC dI cB cI cJ cZ a_this a_sets v_cubes v_width v_height v_depth v_setCount v_roomIsShort out) args s 0 0 A) (F0 m 95 ls [])
abbrev g_X0_setAt_122 (p : Program) (l : Launch) (e : Env) (s : State) (m : MethodId) (args : Array Value) (below : List Frame) (meth : Method) (c : Code) (A : Nat → Prop) (dC : Nat → ClassId) (dI : Nat → Nat → Nat) (cB cI cJ cZ : ClassId) (a_this a_sets : Nat) (v_cubes : Int32) (v_width : Int32) (v_height : Int32) (v_depth : Int32) (v_setCount : Int32) (v_roomIsShort : Int32) (out : Int32 × Unit) (k : Int32 → Int32 → Int32 → Int32 → Int32 → Int32 → Option (Int32 × Unit)) : Prop := ∀ (x1 : Int32) (x2 : Int32) (x3 : Int32) (x4 : Int32) (x5 : Int32) (x6 : Int32), k x1 x2 x3 x4 x5 x6 = some out → ∀ (H : Heap) (locs : List Loc), va_P (dC, dI) vwCl (ws_X0_setAt cB cI cJ cZ a_this a_sets v_cubes v_width v_height v_depth v_setCount v_roomIsShort) H → va_D A (ws_X0_setAt cB cI cJ cZ a_this a_sets v_cubes v_width v_height v_depth v_setCount v_roomIsShort) → va_S A s.heap H locs → ∀ (ls : Array Slot), lv_has ls 10 [(0, .ref a_this), (1, .int x1), (2, .int x2), (3, .int x3), (4, .int x4), (5, .int x5), (6, .int x6)] → W p l e (headSpec wsX0_setAt rm_X0_setAt).room s m args below meth c H locs 0 0 (MQ below (qc_X0_setAt A dC dI cB cI cJ cZ a_this a_sets v_cubes v_width v_height v_depth v_setCount v_roomIsShort out) args s 0 0 A) (F0 m 122 ls [])
abbrev g_X0_setAt_6 (p : Program) (l : Launch) (e : Env) (s : State) (m : MethodId) (args : Array Value) (below : List Frame) (meth : Method) (c : Code) (A : Nat → Prop) (dC : Nat → ClassId) (dI : Nat → Nat → Nat) (cB cI cJ cZ : ClassId) (a_this a_sets : Nat) (v_cubes : Int32) (v_width : Int32) (v_height : Int32) (v_depth : Int32) (v_setCount : Int32) (v_roomIsShort : Int32) (out : Int32 × Unit) (k : Int32 → Int32 → Int32 → Int32 → Int32 → Int32 → Option (Int32 × Unit)) : Prop := ∀ (x1 : Int32) (x2 : Int32) (x3 : Int32) (x4 : Int32) (x5 : Int32) (x6 : Int32), k x1 x2 x3 x4 x5 x6 = some out → ∀ (H : Heap) (locs : List Loc), va_P (dC, dI) vwCl (ws_X0_setAt cB cI cJ cZ a_this a_sets v_cubes v_width v_height v_depth v_setCount v_roomIsShort) H → va_D A (ws_X0_setAt cB cI cJ cZ a_this a_sets v_cubes v_width v_height v_depth v_setCount v_roomIsShort) → va_S A s.heap H locs → ∀ (ls : Array Slot), lv_has ls 10 [(0, .ref a_this), (1, .int x1), (2, .int x2), (3, .int x3), (4, .int x4), (5, .int x5), (6, .int x6)] → W p l e (headSpec wsX0_setAt rm_X0_setAt).room s m args below meth c H locs 0 0 (MQ below (qc_X0_setAt A dC dI cB cI cJ cZ a_this a_sets v_cubes v_width v_height v_depth v_setCount v_roomIsShort out) args s 0 0 A) (F0 m 6 ls [])
abbrev g_X0_setAt_0 (p : Program) (l : Launch) (e : Env) (s : State) (m : MethodId) (args : Array Value) (below : List Frame) (meth : Method) (c : Code) (A : Nat → Prop) (dC : Nat → ClassId) (dI : Nat → Nat → Nat) (cB cI cJ cZ : ClassId) (a_this a_sets : Nat) (v_cubes : Int32) (v_width : Int32) (v_height : Int32) (v_depth : Int32) (v_setCount : Int32) (v_roomIsShort : Int32) (out : Int32 × Unit) (k : Int32 → Int32 → Int32 → Int32 → Option (Int32 × Unit)) : Prop := ∀ (x1 : Int32) (x2 : Int32) (x3 : Int32) (x4 : Int32), k x1 x2 x3 x4 = some out → ∀ (H : Heap) (locs : List Loc), va_P (dC, dI) vwCl (ws_X0_setAt cB cI cJ cZ a_this a_sets v_cubes v_width v_height v_depth v_setCount v_roomIsShort) H → va_D A (ws_X0_setAt cB cI cJ cZ a_this a_sets v_cubes v_width v_height v_depth v_setCount v_roomIsShort) → va_S A s.heap H locs → ∀ (ls : Array Slot), lv_has ls 10 [(0, .ref a_this), (1, .int x1), (2, .int x2), (3, .int x3), (4, .int x4)] → W p l e (headSpec wsX0_setAt rm_X0_setAt).room s m args below meth c H locs 0 0 (MQ below (qc_X0_setAt A dC dI cB cI cJ cZ a_this a_sets v_cubes v_width v_height v_depth v_setCount v_roomIsShort out) args s 0 0 A) (F0 m 0 ls [])
set_option maxHeartbeats 4000000 in
set_option maxRecDepth 100000 in
theorem w_X0_setAt_95 {p : Program} {l : Launch} {e : Env} {s : State} {m : MethodId} {args : Array Value} {below : List Frame} {meth : Method} {c : Code} {A : Nat → Prop} {dC : Nat → ClassId} {dI : Nat → Nat → Nat} {cB cI cJ cZ : ClassId} {a_this a_sets : Nat} {v_cubes : Int32} {v_width : Int32} {v_height : Int32} {v_depth : Int32} {v_setCount : Int32} {v_roomIsShort : Int32} {out : Int32 × Unit} (C0 : Cx RX0 cX0_setAt (some .int) 10 wsX0_setAt p s m args meth c A) (hK : va_K (dC, dI) vwCl (tysG cB cI cJ cZ) s)  : g_X0_setAt_95 p l e s m args below meth c A dC dI cB cI cJ cZ a_this a_sets v_cubes v_width v_height v_depth v_setCount v_roomIsShort out (f_X0_setAt_95 v_width v_height v_depth ) := by
  obtain ⟨hx, hb, hr, hml, hown, hts, hlocks, hA⟩ := id C0
  intro _ hf H locs hP hD hS ls hl
  replace hf : ((some (((0 : Int32), ()))) : Option (Int32 × Unit)) = some out := hf
  refine lv_iconst (v := 0) hx hb dX0_setAt_95 (by decide) ?_
  have h9 := Option.some.inj hf
  have h8 := congrArg Prod.fst h9
  have h7 := congrArg Prod.snd h9
  exact W.iret (v := (0 : Int32)) hx hb hr (fun t ht hW => ⟨⟨(0 : Int32), (), rfl, ⟨h8, h7⟩, by rw [ht]; exact hP, va_K.moved hW.alike hK, hD⟩, hS.F ht⟩) hS.2.2 dX0_setAt_96
set_option maxHeartbeats 4000000 in
set_option maxRecDepth 100000 in
theorem w_X0_setAt_122 {p : Program} {l : Launch} {e : Env} {s : State} {m : MethodId} {args : Array Value} {below : List Frame} {meth : Method} {c : Code} {A : Nat → Prop} {dC : Nat → ClassId} {dI : Nat → Nat → Nat} {cB cI cJ cZ : ClassId} {a_this a_sets : Nat} {v_cubes : Int32} {v_width : Int32} {v_height : Int32} {v_depth : Int32} {v_setCount : Int32} {v_roomIsShort : Int32} {out : Int32 × Unit} (C0 : Cx RX0 cX0_setAt (some .int) 10 wsX0_setAt p s m args meth c A) (hK : va_K (dC, dI) vwCl (tysG cB cI cJ cZ) s) {k_6 : Int32 → Int32 → Int32 → Int32 → Int32 → Int32 → Option (Int32 × Unit)} (hk_6 : g_X0_setAt_6 p l e s m args below meth c A dC dI cB cI cJ cZ a_this a_sets v_cubes v_width v_height v_depth v_setCount v_roomIsShort out k_6) : g_X0_setAt_122 p l e s m args below meth c A dC dI cB cI cJ cZ a_this a_sets v_cubes v_width v_height v_depth v_setCount v_roomIsShort out (f_X0_setAt_122 v_width v_height v_depth k_6) := by
  obtain ⟨hx, hb, hr, hml, hown, hts, hlocks, hA⟩ := id C0
  intro x1 x2 x3 x4 x5 x6 hf H locs hP hD hS ls hl
  replace hf : ((k_6 x1 x2 x3 x4 x5 (x6 + 1)) : Option (Int32 × Unit)) = some out := hf
  refine lv_iinc (v := (x6 + 1)) (lv' := [(6, .int (x6 + 1)), (0, .ref a_this), (1, .int x1), (2, .int x2), (3, .int x3), (4, .int x4), (5, .int x5)]) hx hb dX0_setAt_122 hl (k := 6) rfl rfl (by decide) rfl (fun ls hl => ?_)
  refine lv_goto (tgt := 6) hx hb dX0_setAt_125 (by decide) ?_
  exact hk_6 x1 x2 x3 x4 x5 (x6 + 1) hf _ _ hP hD hS ls (lv_sub hl [1, 2, 3, 4, 5, 6, 0] rfl)
set_option maxHeartbeats 4000000 in
set_option maxRecDepth 100000 in
theorem w_X0_setAt_6 {p : Program} {l : Launch} {e : Env} {s : State} {m : MethodId} {args : Array Value} {below : List Frame} {meth : Method} {c : Code} {A : Nat → Prop} {dC : Nat → ClassId} {dI : Nat → Nat → Nat} {cB cI cJ cZ : ClassId} {a_this a_sets : Nat} {v_cubes : Int32} {v_width : Int32} {v_height : Int32} {v_depth : Int32} {v_setCount : Int32} {v_roomIsShort : Int32} {out : Int32 × Unit} (C0 : Cx RX0 cX0_setAt (some .int) 10 wsX0_setAt p s m args meth c A) (hK : va_K (dC, dI) vwCl (tysG cB cI cJ cZ) s)  : ∀ n : Nat, g_X0_setAt_6 p l e s m args below meth c A dC dI cB cI cJ cZ a_this a_sets v_cubes v_width v_height v_depth v_setCount v_roomIsShort out (f_X0_setAt_6 v_width v_height v_depth  n) := by
  obtain ⟨hx, hb, hr, hml, hown, hts, hlocks, hA⟩ := id C0
  intro n
  induction n with
  | zero =>
    intro x1 x2 x3 x4 x5 x6 hf H locs hP hD hS ls hl
    exact nomatch (show (none : Option (Int32 × Unit)) = some out from hf)
  | succ n ih =>
    intro x1 x2 x3 x4 x5 x6 hf H locs hP hD hS ls hl
    replace hf : ((if (27 : Int32) ≤ x6 then
  (some ((x5, ())))
  else
  (if ((x1 >>> (x6 &&& 31)) &&& (1 : Int32)) = 0 then
  (f_X0_setAt_122 v_width v_height v_depth (f_X0_setAt_6 v_width v_height v_depth n) x1 x2 x3 x4 x5 x6)
  else
  ((f_X0_placeOn x6 (0 : Int32)).bind (fun o_3 =>
  (f_X0_placeOn x6 (1 : Int32)).bind (fun o_4 =>
  (f_X0_placeOn x6 (2 : Int32)).bind (fun o_5 =>
  if (o_3.1 + x2) < 0 then
  (f_X0_setAt_95 v_width v_height v_depth )
  else
  (if v_width ≤ (o_3.1 + x2) then
  (f_X0_setAt_95 v_width v_height v_depth )
  else
  (if (o_4.1 + x3) < 0 then
  (f_X0_setAt_95 v_width v_height v_depth )
  else
  (if v_height ≤ (o_4.1 + x3) then
  (f_X0_setAt_95 v_width v_height v_depth )
  else
  (if (o_5.1 + x4) < 0 then
  (f_X0_setAt_95 v_width v_height v_depth )
  else
  (if (o_5.1 + x4) < v_depth then
  (f_X0_setAt_122 v_width v_height v_depth (f_X0_setAt_6 v_width v_height v_depth n) x1 x2 x3 x4 (x5 ||| ((1 : Int32) <<< (((o_3.1 + x2) + (v_width * ((o_4.1 + x3) + (v_height * (o_5.1 + x4))))) &&& 31))) x6)
  else
  (f_X0_setAt_95 v_width v_height v_depth )))))))))))) : Option (Int32 × Unit)) = some out := hf
    refine lv_iload hx hb dX0_setAt_6 (lv_at hl 6 rfl) ?_
    refine lv_bipush (v := 27) hx hb dX0_setAt_8 (by decide) ?_
    refine lv_icmp_ge (tgt := 128) hx hb dX0_setAt_10 (by decide) (fun c_1 => ?_) (fun c_1 => ?_)
    · replace hf := (if_pos c_1).symm.trans hf
      refine lv_iload hx hb dX0_setAt_128 (lv_at hl 5 rfl) ?_
      have h9 := Option.some.inj hf
      have h8 := congrArg Prod.fst h9
      have h7 := congrArg Prod.snd h9
      exact W.iret (v := x5) hx hb hr (fun t ht hW => ⟨⟨x5, (), rfl, ⟨h8, h7⟩, by rw [ht]; exact hP, va_K.moved hW.alike hK, hD⟩, hS.F ht⟩) hS.2.2 dX0_setAt_130
    · replace hf := (if_neg c_1).symm.trans hf
      refine lv_iload_n hx hb dX0_setAt_13 rfl (lv_at hl 1 rfl) ?_
      refine lv_iload hx hb dX0_setAt_14 (lv_at hl 6 rfl) ?_
      refine lv_ishr hx hb dX0_setAt_16 ?_
      refine lv_iconst (v := 1) hx hb dX0_setAt_17 (by decide) ?_
      refine lv_iand hx hb dX0_setAt_18 ?_
      refine lv_if_eq (tgt := 122) hx hb dX0_setAt_19 (by decide) (fun c_2 => ?_) (fun c_2 => ?_)
      · replace hf := (if_pos c_2).symm.trans hf
        exact w_X0_setAt_122 C0 hK ih x1 x2 x3 x4 x5 x6 hf _ _ hP hD hS ls (lv_sub hl [0, 1, 2, 3, 4, 5, 6] rfl)
      · replace hf := (if_neg c_2).symm.trans hf
        refine lv_iload hx hb dX0_setAt_22 (lv_at hl 6 rfl) ?_
        refine lv_iconst (v := 0) hx hb dX0_setAt_24 (by decide) ?_
        obtain ⟨o_3, ho_3, hf⟩ := gd_bd hf
        have hPc := hP.sub (ws' := ws_X0_placeOn cB cI cJ cZ  ) [] rfl
        have hDc := hD.sub (ws' := ws_X0_placeOn cB cI cJ cZ  ) [] (by decide) rfl
        have hFc := va_free (wc := ws_X0_placeOn cB cI cJ cZ  ) hD hS hA [] rfl
        refine va_calli (va_runS (As := [.int x6, .int (0 : Int32)]) (rest := []) ⟨hx, hb, hml, hown, hts⟩ (c_X0_placeOn l dC dI cB cI cJ cZ H.size x6 (0 : Int32) o_3 ho_3) (va_cwS 2 hts gX0_setAt_X0_placeOn rfl rfl rfl nd_X0_placeOn ⟨Nat.le_of_ble_eq_true rfl, Nat.le_of_ble_eq_true rfl⟩) ⟨fun a U g mk q => by obtain ⟨q0, q1, qP, qK, qD⟩ := q; exact ⟨q0, q1, qP, va_K.moved (u := U) (U := U.calling g mk a) (Vm.Alike.refl U.vm) qK, qD⟩, fun U hU hW => ⟨rfl, by rw [hU], by rw [hU]; exact hPc, va_K.moved hW.alike hK, hDc.weaken (fun _ _ _ _ => trivial)⟩⟩ rfl rfl hl.1 rfl (lv_room (Nat.le_of_ble_eq_true rfl)) dX0_setAt_25 ⟨Nat.le_of_ble_eq_true rfl, Nat.le_of_ble_eq_true rfl⟩) hS (fun q _ h => hFc q h) hFc (fun r_3 u_3 t H1 locs ht hvm hw hB hz1 hk1 hS => ?_)
        obtain ⟨rfl, rfl⟩ := hw
        obtain ⟨hP1, hK1, hD1⟩ := hB
        rw [ht] at hP1
        obtain ⟨hP, hD⟩ := va_join (wr := [(a_this, .inr (1, [.ref a_sets, .int v_cubes, .int v_width, .int v_height, .int v_depth, .int v_setCount, .int v_roomIsShort]))]) (w1 := ws_X0_placeOn cB cI cJ cZ  ) hP hD [] [0] rfl rfl (by decide) (by decide) hk1 hFc hP1 hD1
        generalize H1 = H at hP hS ⊢
        have hP : va_P (dC, dI) vwCl (ws_X0_setAt cB cI cJ cZ a_this a_sets v_cubes v_width v_height v_depth v_setCount v_roomIsShort) H := hP.sub [0] rfl
        have hD : va_D A (ws_X0_setAt cB cI cJ cZ a_this a_sets v_cubes v_width v_height v_depth v_setCount v_roomIsShort) := hD.sub [0] (by decide) rfl
        refine lv_iload_n hx hb dX0_setAt_28 rfl (lv_at hl 2 rfl) ?_
        refine lv_iadd hx hb dX0_setAt_29 ?_
        refine lv_istore (lv' := [(7, .int (o_3.1 + x2)), (0, .ref a_this), (1, .int x1), (2, .int x2), (3, .int x3), (4, .int x4), (5, .int x5), (6, .int x6)]) hx hb dX0_setAt_30 hl (by decide) rfl (fun ls hl => ?_)
        refine lv_iload hx hb dX0_setAt_32 (lv_at hl 7 rfl) ?_
        refine lv_iconst (v := 1) hx hb dX0_setAt_34 (by decide) ?_
        obtain ⟨o_4, ho_4, hf⟩ := gd_bd hf
        have hPc := hP.sub (ws' := ws_X0_placeOn cB cI cJ cZ  ) [] rfl
        have hDc := hD.sub (ws' := ws_X0_placeOn cB cI cJ cZ  ) [] (by decide) rfl
        have hFc := va_free (wc := ws_X0_placeOn cB cI cJ cZ  ) hD hS hA [] rfl
        refine va_calli (va_runS (As := [.int x6, .int (1 : Int32)]) (rest := []) ⟨hx, hb, hml, hown, hts⟩ (c_X0_placeOn l dC dI cB cI cJ cZ H.size x6 (1 : Int32) o_4 ho_4) (va_cwS 2 hts gX0_setAt_X0_placeOn rfl rfl rfl nd_X0_placeOn ⟨Nat.le_of_ble_eq_true rfl, Nat.le_of_ble_eq_true rfl⟩) ⟨fun a U g mk q => by obtain ⟨q0, q1, qP, qK, qD⟩ := q; exact ⟨q0, q1, qP, va_K.moved (u := U) (U := U.calling g mk a) (Vm.Alike.refl U.vm) qK, qD⟩, fun U hU hW => ⟨rfl, by rw [hU], by rw [hU]; exact hPc, va_K.moved hW.alike hK, hDc.weaken (fun _ _ _ _ => trivial)⟩⟩ rfl rfl hl.1 rfl (lv_room (Nat.le_of_ble_eq_true rfl)) dX0_setAt_35 ⟨Nat.le_of_ble_eq_true rfl, Nat.le_of_ble_eq_true rfl⟩) hS (fun q _ h => hFc q h) hFc (fun r_4 u_4 t H1 locs ht hvm hw hB hz1 hk1 hS => ?_)
        obtain ⟨rfl, rfl⟩ := hw
        obtain ⟨hP1, hK1, hD1⟩ := hB
        rw [ht] at hP1
        obtain ⟨hP, hD⟩ := va_join (wr := [(a_this, .inr (1, [.ref a_sets, .int v_cubes, .int v_width, .int v_height, .int v_depth, .int v_setCount, .int v_roomIsShort]))]) (w1 := ws_X0_placeOn cB cI cJ cZ  ) hP hD [] [0] rfl rfl (by decide) (by decide) hk1 hFc hP1 hD1
        generalize H1 = H at hP hS ⊢
        have hP : va_P (dC, dI) vwCl (ws_X0_setAt cB cI cJ cZ a_this a_sets v_cubes v_width v_height v_depth v_setCount v_roomIsShort) H := hP.sub [0] rfl
        have hD : va_D A (ws_X0_setAt cB cI cJ cZ a_this a_sets v_cubes v_width v_height v_depth v_setCount v_roomIsShort) := hD.sub [0] (by decide) rfl
        refine lv_iload_n hx hb dX0_setAt_38 rfl (lv_at hl 4 rfl) ?_
        refine lv_iadd hx hb dX0_setAt_39 ?_
        refine lv_istore (lv' := [(8, .int (o_4.1 + x3)), (7, .int (o_3.1 + x2)), (0, .ref a_this), (1, .int x1), (2, .int x2), (3, .int x3), (4, .int x4), (5, .int x5), (6, .int x6)]) hx hb dX0_setAt_40 hl (by decide) rfl (fun ls hl => ?_)
        refine lv_iload hx hb dX0_setAt_42 (lv_at hl 8 rfl) ?_
        refine lv_iconst (v := 2) hx hb dX0_setAt_44 (by decide) ?_
        obtain ⟨o_5, ho_5, hf⟩ := gd_bd hf
        have hPc := hP.sub (ws' := ws_X0_placeOn cB cI cJ cZ  ) [] rfl
        have hDc := hD.sub (ws' := ws_X0_placeOn cB cI cJ cZ  ) [] (by decide) rfl
        have hFc := va_free (wc := ws_X0_placeOn cB cI cJ cZ  ) hD hS hA [] rfl
        refine va_calli (va_runS (As := [.int x6, .int (2 : Int32)]) (rest := []) ⟨hx, hb, hml, hown, hts⟩ (c_X0_placeOn l dC dI cB cI cJ cZ H.size x6 (2 : Int32) o_5 ho_5) (va_cwS 2 hts gX0_setAt_X0_placeOn rfl rfl rfl nd_X0_placeOn ⟨Nat.le_of_ble_eq_true rfl, Nat.le_of_ble_eq_true rfl⟩) ⟨fun a U g mk q => by obtain ⟨q0, q1, qP, qK, qD⟩ := q; exact ⟨q0, q1, qP, va_K.moved (u := U) (U := U.calling g mk a) (Vm.Alike.refl U.vm) qK, qD⟩, fun U hU hW => ⟨rfl, by rw [hU], by rw [hU]; exact hPc, va_K.moved hW.alike hK, hDc.weaken (fun _ _ _ _ => trivial)⟩⟩ rfl rfl hl.1 rfl (lv_room (Nat.le_of_ble_eq_true rfl)) dX0_setAt_45 ⟨Nat.le_of_ble_eq_true rfl, Nat.le_of_ble_eq_true rfl⟩) hS (fun q _ h => hFc q h) hFc (fun r_5 u_5 t H1 locs ht hvm hw hB hz1 hk1 hS => ?_)
        obtain ⟨rfl, rfl⟩ := hw
        obtain ⟨hP1, hK1, hD1⟩ := hB
        rw [ht] at hP1
        obtain ⟨hP, hD⟩ := va_join (wr := [(a_this, .inr (1, [.ref a_sets, .int v_cubes, .int v_width, .int v_height, .int v_depth, .int v_setCount, .int v_roomIsShort]))]) (w1 := ws_X0_placeOn cB cI cJ cZ  ) hP hD [] [0] rfl rfl (by decide) (by decide) hk1 hFc hP1 hD1
        generalize H1 = H at hP hS ⊢
        have hP : va_P (dC, dI) vwCl (ws_X0_setAt cB cI cJ cZ a_this a_sets v_cubes v_width v_height v_depth v_setCount v_roomIsShort) H := hP.sub [0] rfl
        have hD : va_D A (ws_X0_setAt cB cI cJ cZ a_this a_sets v_cubes v_width v_height v_depth v_setCount v_roomIsShort) := hD.sub [0] (by decide) rfl
        refine lv_iload hx hb dX0_setAt_48 (lv_at hl 6 rfl) ?_
        refine lv_iadd hx hb dX0_setAt_50 ?_
        refine lv_istore (lv' := [(9, .int (o_5.1 + x4)), (8, .int (o_4.1 + x3)), (7, .int (o_3.1 + x2)), (0, .ref a_this), (1, .int x1), (2, .int x2), (3, .int x3), (4, .int x4), (5, .int x5), (6, .int x6)]) hx hb dX0_setAt_51 hl (by decide) rfl (fun ls hl => ?_)
        refine lv_iload hx hb dX0_setAt_53 (lv_at hl 2 rfl) ?_
        refine lv_if_lt (tgt := 95) hx hb dX0_setAt_55 (by decide) (fun c_6 => ?_) (fun c_6 => ?_)
        · replace hf := (if_pos c_6).symm.trans hf
          exact w_X0_setAt_95 C0 hK () hf _ _ hP hD hS ls (lv_sub hl [] rfl)
        · replace hf := (if_neg c_6).symm.trans hf
          refine lv_iload hx hb dX0_setAt_58 (lv_at hl 2 rfl) ?_
          refine lv_aload_n hx hb dX0_setAt_60 rfl (lv_at hl 3 rfl) ?_
          refine va_get (D := (dC, dI)) (ci := 1) (v := .int v_width) (C := RX0) (T := TX0) (N := 7) hx hb hts in_X0_setAt_X0 hown hK hP 0 rfl rfl 2 (by decide) (hts (.fieldLink RX0 25 "LinkedCovers$Piece" "width" "I") lk_X0_setAt_f25) (fun _ h9 => h9) rfl dX0_setAt_61 ?_
          refine lv_icmp_ge (tgt := 95) hx hb dX0_setAt_64 (by decide) (fun c_7 => ?_) (fun c_7 => ?_)
          · replace hf := (if_pos c_7).symm.trans hf
            exact w_X0_setAt_95 C0 hK () hf _ _ hP hD hS ls (lv_sub hl [] rfl)
          · replace hf := (if_neg c_7).symm.trans hf
            refine lv_iload hx hb dX0_setAt_67 (lv_at hl 1 rfl) ?_
            refine lv_if_lt (tgt := 95) hx hb dX0_setAt_69 (by decide) (fun c_8 => ?_) (fun c_8 => ?_)
            · replace hf := (if_pos c_8).symm.trans hf
              exact w_X0_setAt_95 C0 hK () hf _ _ hP hD hS ls (lv_sub hl [] rfl)
            · replace hf := (if_neg c_8).symm.trans hf
              refine lv_iload hx hb dX0_setAt_72 (lv_at hl 1 rfl) ?_
              refine lv_aload_n hx hb dX0_setAt_74 rfl (lv_at hl 3 rfl) ?_
              refine va_get (D := (dC, dI)) (ci := 1) (v := .int v_height) (C := RX0) (T := TX0) (N := 7) hx hb hts in_X0_setAt_X0 hown hK hP 0 rfl rfl 3 (by decide) (hts (.fieldLink RX0 28 "LinkedCovers$Piece" "height" "I") lk_X0_setAt_f28) (fun _ h9 => h9) rfl dX0_setAt_75 ?_
              refine lv_icmp_ge (tgt := 95) hx hb dX0_setAt_78 (by decide) (fun c_9 => ?_) (fun c_9 => ?_)
              · replace hf := (if_pos c_9).symm.trans hf
                exact w_X0_setAt_95 C0 hK () hf _ _ hP hD hS ls (lv_sub hl [] rfl)
              · replace hf := (if_neg c_9).symm.trans hf
                refine lv_iload hx hb dX0_setAt_81 (lv_at hl 0 rfl) ?_
                refine lv_if_lt (tgt := 95) hx hb dX0_setAt_83 (by decide) (fun c_10 => ?_) (fun c_10 => ?_)
                · replace hf := (if_pos c_10).symm.trans hf
                  exact w_X0_setAt_95 C0 hK () hf _ _ hP hD hS ls (lv_sub hl [] rfl)
                · replace hf := (if_neg c_10).symm.trans hf
                  refine lv_iload hx hb dX0_setAt_86 (lv_at hl 0 rfl) ?_
                  refine lv_aload_n hx hb dX0_setAt_88 rfl (lv_at hl 3 rfl) ?_
                  refine va_get (D := (dC, dI)) (ci := 1) (v := .int v_depth) (C := RX0) (T := TX0) (N := 7) hx hb hts in_X0_setAt_X0 hown hK hP 0 rfl rfl 4 (by decide) (hts (.fieldLink RX0 31 "LinkedCovers$Piece" "depth" "I") lk_X0_setAt_f31) (fun _ h9 => h9) rfl dX0_setAt_89 ?_
                  refine lv_icmp_lt (tgt := 97) hx hb dX0_setAt_92 (by decide) (fun c_11 => ?_) (fun c_11 => ?_)
                  · replace hf := (if_pos c_11).symm.trans hf
                    refine lv_iload hx hb dX0_setAt_97 (lv_at hl 8 rfl) ?_
                    refine lv_iconst (v := 1) hx hb dX0_setAt_99 (by decide) ?_
                    refine lv_iload hx hb dX0_setAt_100 (lv_at hl 2 rfl) ?_
                    refine lv_aload_n hx hb dX0_setAt_102 rfl (lv_at hl 3 rfl) ?_
                    refine va_get (D := (dC, dI)) (ci := 1) (v := .int v_width) (C := RX0) (T := TX0) (N := 7) hx hb hts in_X0_setAt_X0 hown hK hP 0 rfl rfl 2 (by decide) (hts (.fieldLink RX0 25 "LinkedCovers$Piece" "width" "I") lk_X0_setAt_f25) (fun _ h9 => h9) rfl dX0_setAt_103 ?_
                    refine lv_iload hx hb dX0_setAt_106 (lv_at hl 1 rfl) ?_
                    refine lv_aload_n hx hb dX0_setAt_108 rfl (lv_at hl 3 rfl) ?_
                    refine va_get (D := (dC, dI)) (ci := 1) (v := .int v_height) (C := RX0) (T := TX0) (N := 7) hx hb hts in_X0_setAt_X0 hown hK hP 0 rfl rfl 3 (by decide) (hts (.fieldLink RX0 28 "LinkedCovers$Piece" "height" "I") lk_X0_setAt_f28) (fun _ h9 => h9) rfl dX0_setAt_109 ?_
                    refine lv_iload hx hb dX0_setAt_112 (lv_at hl 0 rfl) ?_
                    refine lv_imul hx hb dX0_setAt_114 ?_
                    refine lv_iadd hx hb dX0_setAt_115 ?_
                    refine lv_imul hx hb dX0_setAt_116 ?_
                    refine lv_iadd hx hb dX0_setAt_117 ?_
                    refine lv_ishl hx hb dX0_setAt_118 ?_
                    refine lv_ior hx hb dX0_setAt_119 ?_
                    refine lv_istore (lv' := [(5, .int (x5 ||| ((1 : Int32) <<< (((o_3.1 + x2) + (v_width * ((o_4.1 + x3) + (v_height * (o_5.1 + x4))))) &&& 31)))), (9, .int (o_5.1 + x4)), (8, .int (o_4.1 + x3)), (7, .int (o_3.1 + x2)), (0, .ref a_this), (1, .int x1), (2, .int x2), (3, .int x3), (4, .int x4), (6, .int x6)]) hx hb dX0_setAt_120 hl (by decide) rfl (fun ls hl => ?_)
                    exact w_X0_setAt_122 C0 hK ih x1 x2 x3 x4 (x5 ||| ((1 : Int32) <<< (((o_3.1 + x2) + (v_width * ((o_4.1 + x3) + (v_height * (o_5.1 + x4))))) &&& 31))) x6 hf _ _ hP hD hS ls (lv_sub hl [4, 5, 6, 7, 8, 0, 9] rfl)
                  · replace hf := (if_neg c_11).symm.trans hf
                    exact w_X0_setAt_95 C0 hK () hf _ _ hP hD hS ls (lv_sub hl [] rfl)
set_option maxHeartbeats 4000000 in
set_option maxRecDepth 100000 in
theorem w_X0_setAt_0 {p : Program} {l : Launch} {e : Env} {s : State} {m : MethodId} {args : Array Value} {below : List Frame} {meth : Method} {c : Code} {A : Nat → Prop} {dC : Nat → ClassId} {dI : Nat → Nat → Nat} {cB cI cJ cZ : ClassId} {a_this a_sets : Nat} {v_cubes : Int32} {v_width : Int32} {v_height : Int32} {v_depth : Int32} {v_setCount : Int32} {v_roomIsShort : Int32} {out : Int32 × Unit} (C0 : Cx RX0 cX0_setAt (some .int) 10 wsX0_setAt p s m args meth c A) (hK : va_K (dC, dI) vwCl (tysG cB cI cJ cZ) s)  : g_X0_setAt_0 p l e s m args below meth c A dC dI cB cI cJ cZ a_this a_sets v_cubes v_width v_height v_depth v_setCount v_roomIsShort out (f_X0_setAt v_width v_height v_depth ) := by
  obtain ⟨hx, hb, hr, hml, hown, hts, hlocks, hA⟩ := id C0
  intro x1 x2 x3 x4 hf H locs hP hD hS ls hl
  replace hf : ((f_X0_setAt_6 v_width v_height v_depth 1000000 x1 x2 x3 x4 (0 : Int32) (0 : Int32)) : Option (Int32 × Unit)) = some out := hf
  refine lv_iconst (v := 0) hx hb dX0_setAt_0 (by decide) ?_
  refine lv_istore (lv' := [(5, .int (0 : Int32)), (0, .ref a_this), (1, .int x1), (2, .int x2), (3, .int x3), (4, .int x4)]) hx hb dX0_setAt_1 hl (by decide) rfl (fun ls hl => ?_)
  refine lv_iconst (v := 0) hx hb dX0_setAt_3 (by decide) ?_
  refine lv_istore (lv' := [(6, .int (0 : Int32)), (5, .int (0 : Int32)), (0, .ref a_this), (1, .int x1), (2, .int x2), (3, .int x3), (4, .int x4)]) hx hb dX0_setAt_4 hl (by decide) rfl (fun ls hl => ?_)
  exact w_X0_setAt_6 C0 hK 1000000 x1 x2 x3 x4 (0 : Int32) (0 : Int32) hf _ _ hP hD hS ls (lv_sub hl [2, 3, 4, 5, 6, 1, 0] rfl)
theorem nd_X0_setAt : yX0_setAt.cls ≠ "java/lang/invoke/MethodHandle" ∧ yX0_setAt.cls ≠ "java/lang/invoke/VarHandle" ∧ (parseMethodDescriptor yX0_setAt.desc).map (fun d => d.parameters.length) = some 4 := by decide +kernel
set_option maxHeartbeats 4000000 in
set_option maxRecDepth 100000 in
theorem c_X0_setAt (l : Launch) (dC : Nat → ClassId) (dI : Nat → Nat → Nat) (cB cI cJ cZ : ClassId) (a_this a_sets : Nat) (sz : Nat) (v_cubes : Int32) (v_width : Int32) (v_height : Int32) (v_depth : Int32) (v_setCount : Int32) (v_roomIsShort : Int32) (x1 : Int32) (x2 : Int32) (x3 : Int32) (x4 : Int32) (out : Int32 × Unit) (hf : f_X0_setAt v_width v_height v_depth x1 x2 x3 x4 = some out) : Met l yX0_setAt wsX0_setAt rm_X0_setAt (va_Pc [.ref a_this, .int x1, .int x2, .int x3, .int x4] (fun U => U.heap.size = sz ∧ va_P (dC, dI) vwCl (ws_X0_setAt cB cI cJ cZ a_this a_sets v_cubes v_width v_height v_depth v_setCount v_roomIsShort) U.heap ∧ va_K (dC, dI) vwCl (tysG cB cI cJ cZ) U ∧ va_D (fun _ => True) (ws_X0_setAt cB cI cJ cZ a_this a_sets v_cubes v_width v_height v_depth v_setCount v_roomIsShort))) (qc_X0_setAt (va_A (ws_X0_setAt cB cI cJ cZ a_this a_sets v_cubes v_width v_height v_depth v_setCount v_roomIsShort) sz) dC dI cB cI cJ cZ a_this a_sets v_cubes v_width v_height v_depth v_setCount v_roomIsShort out) 0 0 (va_A (ws_X0_setAt cB cI cJ cZ a_this a_sets v_cubes v_width v_height v_depth v_setCount v_roomIsShort) sz) := by
  refine Met.ofW (cc := cX0_setAt) (maxL := 10) (ret := (some .int)) (by decide) rfl ?_
  intro p e s m args below meth c s₁ B hml hv
  obtain ⟨rfl, hsz, hP, hK, hD0⟩ := hv
  subst hsz
  have hD := hD0.self (sz := s.heap.size)
  generalize hAe : va_A (ws_X0_setAt cB cI cJ cZ a_this a_sets v_cubes v_width v_height v_depth v_setCount v_roomIsShort) s.heap.size = A at hD ⊢
  have hA : ∀ q : Nat, s.heap.size ≤ q → A q := fun q h => by rw [← hAe]; exact Or.inr h
  have hl := lv_entry ([.ref a_this, .int x1, .int x2, .int x3, .int x4]) (n := 10) (Nat.le_of_ble_eq_true rfl)
  rw [lg_entry_eq]
  generalize (lg_sl ([.ref a_this, .int x1, .int x2, .int x3, .int x4]) ++ List.replicate (10 - (lg_sl ([.ref a_this, .int x1, .int x2, .int x3, .int x4])).length) Slot.unset).toArray = ls at hl ⊢
  have hl : lv_has ls 10 [(0, .ref a_this), (1, .int x1), (2, .int x2), (3, .int x3), (4, .int x4)] := hl
  exact w_X0_setAt_0 ⟨B.exec, B.bytes, B.returns, hml, findClass_of_methodNamed B.named, atoms_spec (ws := wsX0_setAt) B.pre, B.notSynchronized, hA⟩ hK x1 x2 x3 x4 hf _ _ hP hD va_S.rf ls (lv_sub hl [0, 1, 2, 3, 4] rfl)
-- X0.keepSet(II)V: 67 instructions
theorem in_X0_keepSet_X0 : ∀ w ∈ wsX00, w ∈ wsX0_keepSet := by decide +kernel
abbrev ws_X0_keepSet (cB cI cJ cZ : ClassId) (a_this a_sets : Nat) (v_cubes : Int32) (v_width : Int32) (v_height : Int32) (v_depth : Int32) (v_setCount : Int32) (v_roomIsShort : Int32) (v_sets : (Nat → Int32)) : va_W := [(a_this, .inr (1, [.ref a_sets, .int v_cubes, .int v_width, .int v_height, .int v_depth, .int v_setCount, .int v_roomIsShort])), (a_sets, .inl (cI, 60, .inl v_sets))]
abbrev rm_X0_keepSet : Room := { frames := 0, cells := 0, slots := 0, locals := 0 }
theorem lk_X0_keepSet_f37 : Cond.fieldLink RX0 37 "LinkedCovers$Piece" "roomIsShort" "Z" ∈ wsX0_keepSet := by decide +kernel
theorem lk_X0_keepSet_f9 : Cond.fieldLink RX0 9 "LinkedCovers$Piece" "sets" "[I" ∈ wsX0_keepSet := by decide +kernel
theorem lk_X0_keepSet_f34 : Cond.fieldLink RX0 34 "LinkedCovers$Piece" "setCount" "I" ∈ wsX0_keepSet := by decide +kernel
def f_X0_keepSet_62   (v_setCount : Int32) (v_roomIsShort : Int32) (v_sets : (Nat → Int32)) : Option (Int32 × Int32 × (Nat → Int32)) :=
  some ((v_setCount, (1 : Int32), v_sets))
def f_X0_keepSet_74   : Nat → Int32 → Int32 → (Nat → Int32) → Int32 → Int32 → Int32 → Option (Int32 × Int32 × (Nat → Int32))
  | 0 => fun _ _ _ _ _ _ => none
  | n + 1 => fun v_setCount v_roomIsShort v_sets x1 x3 x4 => if x4 ≤ x3 then
  (if (x3 < 0 ∨ 60 ≤ Int32.toNatClampNeg x3) then none else
  some (((v_setCount + (1 : Int32)), v_roomIsShort, (upd v_sets (Int32.toNatClampNeg x3) x1))))
  else
  (if ((x4 - (1 : Int32)) < 0 ∨ 60 ≤ Int32.toNatClampNeg (x4 - (1 : Int32))) then none else
  if (x4 < 0 ∨ 60 ≤ Int32.toNatClampNeg x4) then none else
  f_X0_keepSet_74 n v_setCount v_roomIsShort (upd v_sets (Int32.toNatClampNeg x4) (v_sets (Int32.toNatClampNeg (x4 - (1 : Int32))))) x1 x3 (x4 + (-1)))
def f_X0_keepSet_45   (v_setCount : Int32) (v_roomIsShort : Int32) (v_sets : (Nat → Int32)) (x1 : Int32) (x2 : Int32) (x3 : Int32) : Option (Int32 × Int32 × (Nat → Int32)) :=
  if x2 ≤ v_setCount then
  (f_X0_keepSet_62 v_setCount v_roomIsShort v_sets)
  else
  (if v_setCount < (60 : Int32) then
  (f_X0_keepSet_74 1000000 v_setCount v_roomIsShort v_sets x1 x3 v_setCount)
  else
  (f_X0_keepSet_62 v_setCount v_roomIsShort v_sets))
def f_X0_keepSet_26   (v_setCount : Int32) (v_roomIsShort : Int32) (v_sets : (Nat → Int32)) (x1 : Int32) (x2 : Int32) (x3 : Int32) : Option (Int32 × Int32 × (Nat → Int32)) :=
  if v_setCount ≤ x3 then
  (f_X0_keepSet_45 v_setCount v_roomIsShort v_sets x1 x2 x3)
  else
  (if (x3 < 0 ∨ 60 ≤ Int32.toNatClampNeg x3) then none else
  if (v_sets (Int32.toNatClampNeg x3)) = x1 then
  (some ((v_setCount, v_roomIsShort, v_sets)))
  else
  (f_X0_keepSet_45 v_setCount v_roomIsShort v_sets x1 x2 x3))
def f_X0_keepSet_2   : Nat → Int32 → Int32 → (Nat → Int32) → Int32 → Int32 → Int32 → Option (Int32 × Int32 × (Nat → Int32))
  | 0 => fun _ _ _ _ _ _ => none
  | n + 1 => fun v_setCount v_roomIsShort v_sets x1 x2 x3 => if v_setCount ≤ x3 then
  (f_X0_keepSet_26 v_setCount v_roomIsShort v_sets x1 x2 x3)
  else
  (if (x3 < 0 ∨ 60 ≤ Int32.toNatClampNeg x3) then none else
  if x1 ≤ (v_sets (Int32.toNatClampNeg x3)) then
  (f_X0_keepSet_26 v_setCount v_roomIsShort v_sets x1 x2 x3)
  else
  (f_X0_keepSet_2 n v_setCount v_roomIsShort v_sets x1 x2 (x3 + 1)))
def f_X0_keepSet   (v_setCount : Int32) (v_roomIsShort : Int32) (v_sets : (Nat → Int32)) (x1 : Int32) (x2 : Int32) : Option (Int32 × Int32 × (Nat → Int32)) :=
  f_X0_keepSet_2 1000000 v_setCount v_roomIsShort v_sets x1 x2 (0 : Int32)
abbrev qc_X0_keepSet (A : Nat → Prop) (dC : Nat → ClassId) (dI : Nat → Nat → Nat) (cB cI cJ cZ : ClassId) (a_this a_sets : Nat) (v_cubes : Int32) (v_width : Int32) (v_height : Int32) (v_depth : Int32) (out : Int32 × Int32 × (Nat → Int32)) : Array Value → State → Outcome → State → Prop := va_Qv (fun u : Int32 × Int32 × (Nat → Int32) => u = out) (fun (u : Int32 × Int32 × (Nat → Int32)) (t : State) => va_P (dC, dI) vwCl (ws_X0_keepSet cB cI cJ cZ a_this a_sets v_cubes v_width v_height v_depth u.1 u.2.1 u.2.2) t.heap ∧ va_K (dC, dI) vwCl (tysG cB cI cJ cZ) t ∧ va_D A (ws_X0_keepSet cB cI cJ cZ a_this a_sets v_cubes v_width v_height v_depth u.1 u.2.1 u.2.2)) A
abbrev g_X0_keepSet_62 (p : Program) (l : Launch) (e : Env) (s : State) (m : MethodId) (args : Array Value) (below : List Frame) (meth : Method) (c : Code) (A : Nat → Prop) (dC : Nat → ClassId) (dI : Nat → Nat → Nat) (cB cI cJ cZ : ClassId) (a_this a_sets : Nat) (v_cubes : Int32) (v_width : Int32) (v_height : Int32) (v_depth : Int32) (out : Int32 × Int32 × (Nat → Int32)) (k : Int32 → Int32 → (Nat → Int32) → Option (Int32 × Int32 × (Nat → Int32))) : Prop := ∀ (v_setCount : Int32) (v_roomIsShort : Int32) (v_sets : (Nat → Int32)), k v_setCount v_roomIsShort v_sets = some out → ∀ (H : Heap) (locs : List Loc), va_P (dC, dI) vwCl (ws_X0_keepSet cB cI cJ cZ a_this a_sets v_cubes v_width v_height v_depth v_setCount v_roomIsShort v_sets) H → va_D A (ws_X0_keepSet cB cI cJ cZ a_this a_sets v_cubes v_width v_height v_depth v_setCount v_roomIsShort v_sets) → va_S A s.heap H locs → ∀ (ls : Array Slot), lv_has ls 5 [(0, .ref a_this)] → W p l e (headSpec wsX0_keepSet rm_X0_keepSet).room s m args below meth c H locs 0 0 (MQ below (qc_X0_keepSet A dC dI cB cI cJ cZ a_this a_sets v_cubes v_width v_height v_depth out) args s 0 0 A) (F0 m 62 ls [])
abbrev g_X0_keepSet_74 (p : Program) (l : Launch) (e : Env) (s : State) (m : MethodId) (args : Array Value) (below : List Frame) (meth : Method) (c : Code) (A : Nat → Prop) (dC : Nat → ClassId) (dI : Nat → Nat → Nat) (cB cI cJ cZ : ClassId) (a_this a_sets : Nat) (v_cubes : Int32) (v_width : Int32) (v_height : Int32) (v_depth : Int32) (out : Int32 × Int32 × (Nat → Int32)) (k : Int32 → Int32 → (Nat → Int32) → Int32 → Int32 → Int32 → Option (Int32 × Int32 × (Nat → Int32))) : Prop := ∀ (v_setCount : Int32) (v_roomIsShort : Int32) (v_sets : (Nat → Int32)) (x1 : Int32) (x3 : Int32) (x4 : Int32), k v_setCount v_roomIsShort v_sets x1 x3 x4 = some out → ∀ (H : Heap) (locs : List Loc), va_P (dC, dI) vwCl (ws_X0_keepSet cB cI cJ cZ a_this a_sets v_cubes v_width v_height v_depth v_setCount v_roomIsShort v_sets) H → va_D A (ws_X0_keepSet cB cI cJ cZ a_this a_sets v_cubes v_width v_height v_depth v_setCount v_roomIsShort v_sets) → va_S A s.heap H locs → ∀ (ls : Array Slot), lv_has ls 5 [(0, .ref a_this), (1, .int x1), (3, .int x3), (4, .int x4)] → W p l e (headSpec wsX0_keepSet rm_X0_keepSet).room s m args below meth c H locs 0 0 (MQ below (qc_X0_keepSet A dC dI cB cI cJ cZ a_this a_sets v_cubes v_width v_height v_depth out) args s 0 0 A) (F0 m 74 ls [])
abbrev g_X0_keepSet_45 (p : Program) (l : Launch) (e : Env) (s : State) (m : MethodId) (args : Array Value) (below : List Frame) (meth : Method) (c : Code) (A : Nat → Prop) (dC : Nat → ClassId) (dI : Nat → Nat → Nat) (cB cI cJ cZ : ClassId) (a_this a_sets : Nat) (v_cubes : Int32) (v_width : Int32) (v_height : Int32) (v_depth : Int32) (out : Int32 × Int32 × (Nat → Int32)) (k : Int32 → Int32 → (Nat → Int32) → Int32 → Int32 → Int32 → Option (Int32 × Int32 × (Nat → Int32))) : Prop := ∀ (v_setCount : Int32) (v_roomIsShort : Int32) (v_sets : (Nat → Int32)) (x1 : Int32) (x2 : Int32) (x3 : Int32), k v_setCount v_roomIsShort v_sets x1 x2 x3 = some out → ∀ (H : Heap) (locs : List Loc), va_P (dC, dI) vwCl (ws_X0_keepSet cB cI cJ cZ a_this a_sets v_cubes v_width v_height v_depth v_setCount v_roomIsShort v_sets) H → va_D A (ws_X0_keepSet cB cI cJ cZ a_this a_sets v_cubes v_width v_height v_depth v_setCount v_roomIsShort v_sets) → va_S A s.heap H locs → ∀ (ls : Array Slot), lv_has ls 5 [(0, .ref a_this), (1, .int x1), (2, .int x2), (3, .int x3)] → W p l e (headSpec wsX0_keepSet rm_X0_keepSet).room s m args below meth c H locs 0 0 (MQ below (qc_X0_keepSet A dC dI cB cI cJ cZ a_this a_sets v_cubes v_width v_height v_depth out) args s 0 0 A) (F0 m 45 ls [])
abbrev g_X0_keepSet_26 (p : Program) (l : Launch) (e : Env) (s : State) (m : MethodId) (args : Array Value) (below : List Frame) (meth : Method) (c : Code) (A : Nat → Prop) (dC : Nat → ClassId) (dI : Nat → Nat → Nat) (cB cI cJ cZ : ClassId) (a_this a_sets : Nat) (v_cubes : Int32) (v_width : Int32) (v_height : Int32) (v_depth : Int32) (out : Int32 × Int32 × (Nat → Int32)) (k : Int32 → Int32 → (Nat → Int32) → Int32 → Int32 → Int32 → Option (Int32 × Int32 × (Nat → Int32))) : Prop := ∀ (v_setCount : Int32) (v_roomIsShort : Int32) (v_sets : (Nat → Int32)) (x1 : Int32) (x2 : Int32) (x3 : Int32), k v_setCount v_roomIsShort v_sets x1 x2 x3 = some out → ∀ (H : Heap) (locs : List Loc), va_P (dC, dI) vwCl (ws_X0_keepSet cB cI cJ cZ a_this a_sets v_cubes v_width v_height v_depth v_setCount v_roomIsShort v_sets) H → va_D A (ws_X0_keepSet cB cI cJ cZ a_this a_sets v_cubes v_width v_height v_depth v_setCount v_roomIsShort v_sets) → va_S A s.heap H locs → ∀ (ls : Array Slot), lv_has ls 5 [(0, .ref a_this), (1, .int x1), (2, .int x2), (3, .int x3)] → W p l e (headSpec wsX0_keepSet rm_X0_keepSet).room s m args below meth c H locs 0 0 (MQ below (qc_X0_keepSet A dC dI cB cI cJ cZ a_this a_sets v_cubes v_width v_height v_depth out) args s 0 0 A) (F0 m 26 ls [])
abbrev g_X0_keepSet_2 (p : Program) (l : Launch) (e : Env) (s : State) (m : MethodId) (args : Array Value) (below : List Frame) (meth : Method) (c : Code) (A : Nat → Prop) (dC : Nat → ClassId) (dI : Nat → Nat → Nat) (cB cI cJ cZ : ClassId) (a_this a_sets : Nat) (v_cubes : Int32) (v_width : Int32) (v_height : Int32) (v_depth : Int32) (out : Int32 × Int32 × (Nat → Int32)) (k : Int32 → Int32 → (Nat → Int32) → Int32 → Int32 → Int32 → Option (Int32 × Int32 × (Nat → Int32))) : Prop := ∀ (v_setCount : Int32) (v_roomIsShort : Int32) (v_sets : (Nat → Int32)) (x1 : Int32) (x2 : Int32) (x3 : Int32), k v_setCount v_roomIsShort v_sets x1 x2 x3 = some out → ∀ (H : Heap) (locs : List Loc), va_P (dC, dI) vwCl (ws_X0_keepSet cB cI cJ cZ a_this a_sets v_cubes v_width v_height v_depth v_setCount v_roomIsShort v_sets) H → va_D A (ws_X0_keepSet cB cI cJ cZ a_this a_sets v_cubes v_width v_height v_depth v_setCount v_roomIsShort v_sets) → va_S A s.heap H locs → ∀ (ls : Array Slot), lv_has ls 5 [(0, .ref a_this), (1, .int x1), (2, .int x2), (3, .int x3)] → W p l e (headSpec wsX0_keepSet rm_X0_keepSet).room s m args below meth c H locs 0 0 (MQ below (qc_X0_keepSet A dC dI cB cI cJ cZ a_this a_sets v_cubes v_width v_height v_depth out) args s 0 0 A) (F0 m 2 ls [])
abbrev g_X0_keepSet_0 (p : Program) (l : Launch) (e : Env) (s : State) (m : MethodId) (args : Array Value) (below : List Frame) (meth : Method) (c : Code) (A : Nat → Prop) (dC : Nat → ClassId) (dI : Nat → Nat → Nat) (cB cI cJ cZ : ClassId) (a_this a_sets : Nat) (v_cubes : Int32) (v_width : Int32) (v_height : Int32) (v_depth : Int32) (out : Int32 × Int32 × (Nat → Int32)) (k : Int32 → Int32 → (Nat → Int32) → Int32 → Int32 → Option (Int32 × Int32 × (Nat → Int32))) : Prop := ∀ (v_setCount : Int32) (v_roomIsShort : Int32) (v_sets : (Nat → Int32)) (x1 : Int32) (x2 : Int32), k v_setCount v_roomIsShort v_sets x1 x2 = some out → ∀ (H : Heap) (locs : List Loc), va_P (dC, dI) vwCl (ws_X0_keepSet cB cI cJ cZ a_this a_sets v_cubes v_width v_height v_depth v_setCount v_roomIsShort v_sets) H → va_D A (ws_X0_keepSet cB cI cJ cZ a_this a_sets v_cubes v_width v_height v_depth v_setCount v_roomIsShort v_sets) → va_S A s.heap H locs → ∀ (ls : Array Slot), lv_has ls 5 [(0, .ref a_this), (1, .int x1), (2, .int x2)] → W p l e (headSpec wsX0_keepSet rm_X0_keepSet).room s m args below meth c H locs 0 0 (MQ below (qc_X0_keepSet A dC dI cB cI cJ cZ a_this a_sets v_cubes v_width v_height v_depth out) args s 0 0 A) (F0 m 0 ls [])
set_option maxHeartbeats 4000000 in
set_option maxRecDepth 100000 in
theorem w_X0_keepSet_62 {p : Program} {l : Launch} {e : Env} {s : State} {m : MethodId} {args : Array Value} {below : List Frame} {meth : Method} {c : Code} {A : Nat → Prop} {dC : Nat → ClassId} {dI : Nat → Nat → Nat} {cB cI cJ cZ : ClassId} {a_this a_sets : Nat} {v_cubes : Int32} {v_width : Int32} {v_height : Int32} {v_depth : Int32} {out : Int32 × Int32 × (Nat → Int32)} (C0 : Cx RX0 cX0_keepSet none 5 wsX0_keepSet p s m args meth c A) (hK : va_K (dC, dI) vwCl (tysG cB cI cJ cZ) s)  : g_X0_keepSet_62 p l e s m args below meth c A dC dI cB cI cJ cZ a_this a_sets v_cubes v_width v_height v_depth out (f_X0_keepSet_62  ) := by
  obtain ⟨hx, hb, hr, hml, hown, hts, hlocks, hA⟩ := id C0
  intro v_setCount v_roomIsShort v_sets hf H locs hP hD hS ls hl
  replace hf : ((some ((v_setCount, (1 : Int32), v_sets))) : Option (Int32 × Int32 × (Nat → Int32))) = some out := hf
  refine lv_aload_n hx hb dX0_keepSet_62 rfl (lv_at hl 0 rfl) ?_
  refine lv_iconst (v := 1) hx hb dX0_keepSet_63 (by decide) ?_
  refine va_put (D := (dC, dI)) (ci := 1) (v := .int (1 : Int32)) (ty := .boolean) (C := RX0) (T := TX0) (N := 7) hx hb hts in_X0_keepSet_X0 tyX0 tyX0_ok nmX0 hown hK hP hD hS 0 rfl rfl 6 (by decide) (hts (.fieldLink RX0 37 "LinkedCovers$Piece" "roomIsShort" "Z") lk_X0_keepSet_f37) (fun _ h9 => h9) rfl (by decide +kernel) rfl rfl (Nat.le_of_ble_eq_true rfl) dX0_keepSet_64 (fun H locs hP hD hS => ?_)
  have hP : va_P (dC, dI) vwCl (ws_X0_keepSet cB cI cJ cZ a_this a_sets v_cubes v_width v_height v_depth v_setCount (1 : Int32) v_sets) H := hP
  have hD : va_D A (ws_X0_keepSet cB cI cJ cZ a_this a_sets v_cubes v_width v_height v_depth v_setCount (1 : Int32) v_sets) := hD
  exact W.vret hx hb hr (fun t ht hW => ⟨⟨(v_setCount, (1 : Int32), v_sets), rfl, Option.some.inj hf, by rw [ht]; exact hP, va_K.moved hW.alike hK, hD⟩, hS.F ht⟩) hS.2.2 dX0_keepSet_67
set_option maxHeartbeats 4000000 in
set_option maxRecDepth 100000 in
theorem w_X0_keepSet_74 {p : Program} {l : Launch} {e : Env} {s : State} {m : MethodId} {args : Array Value} {below : List Frame} {meth : Method} {c : Code} {A : Nat → Prop} {dC : Nat → ClassId} {dI : Nat → Nat → Nat} {cB cI cJ cZ : ClassId} {a_this a_sets : Nat} {v_cubes : Int32} {v_width : Int32} {v_height : Int32} {v_depth : Int32} {out : Int32 × Int32 × (Nat → Int32)} (C0 : Cx RX0 cX0_keepSet none 5 wsX0_keepSet p s m args meth c A) (hK : va_K (dC, dI) vwCl (tysG cB cI cJ cZ) s)  : ∀ n : Nat, g_X0_keepSet_74 p l e s m args below meth c A dC dI cB cI cJ cZ a_this a_sets v_cubes v_width v_height v_depth out (f_X0_keepSet_74   n) := by
  obtain ⟨hx, hb, hr, hml, hown, hts, hlocks, hA⟩ := id C0
  intro n
  induction n with
  | zero =>
    intro v_setCount v_roomIsShort v_sets x1 x3 x4 hf H locs hP hD hS ls hl
    exact nomatch (show (none : Option (Int32 × Int32 × (Nat → Int32))) = some out from hf)
  | succ n ih =>
    intro v_setCount v_roomIsShort v_sets x1 x3 x4 hf H locs hP hD hS ls hl
    replace hf : ((if x4 ≤ x3 then
  (if (x3 < 0 ∨ 60 ≤ Int32.toNatClampNeg x3) then none else
  some (((v_setCount + (1 : Int32)), v_roomIsShort, (upd v_sets (Int32.toNatClampNeg x3) x1))))
  else
  (if ((x4 - (1 : Int32)) < 0 ∨ 60 ≤ Int32.toNatClampNeg (x4 - (1 : Int32))) then none else
  if (x4 < 0 ∨ 60 ≤ Int32.toNatClampNeg x4) then none else
  f_X0_keepSet_74 n v_setCount v_roomIsShort (upd v_sets (Int32.toNatClampNeg x4) (v_sets (Int32.toNatClampNeg (x4 - (1 : Int32))))) x1 x3 (x4 + (-1)))) : Option (Int32 × Int32 × (Nat → Int32))) = some out := hf
    refine lv_iload hx hb dX0_keepSet_74 (lv_at hl 3 rfl) ?_
    refine lv_iload_n hx hb dX0_keepSet_76 rfl (lv_at hl 2 rfl) ?_
    refine lv_icmp_le (tgt := 102) hx hb dX0_keepSet_77 (by decide) (fun c_1 => ?_) (fun c_1 => ?_)
    · replace hf := (if_pos c_1).symm.trans hf
      refine lv_aload_n hx hb dX0_keepSet_102 rfl (lv_at hl 0 rfl) ?_
      refine va_get (D := (dC, dI)) (ci := 1) (v := .ref a_sets) (C := RX0) (T := TX0) (N := 7) hx hb hts in_X0_keepSet_X0 hown hK hP 0 rfl rfl 0 (by decide) (hts (.fieldLink RX0 9 "LinkedCovers$Piece" "sets" "[I") lk_X0_keepSet_f9) (fun _ h9 => h9) rfl dX0_keepSet_103 ?_
      refine lv_iload_n hx hb dX0_keepSet_106 rfl (lv_at hl 2 rfl) ?_
      refine lv_iload_n hx hb dX0_keepSet_107 rfl (lv_at hl 1 rfl) ?_
      obtain ⟨h_2, hf⟩ := gd_ck hf
      refine va_iast hx hb hK hP hD hS 1 1 rfl rfl h_2 dX0_keepSet_108 (fun H locs hP hD hS => ?_)
      have hP : va_P (dC, dI) vwCl (ws_X0_keepSet cB cI cJ cZ a_this a_sets v_cubes v_width v_height v_depth v_setCount v_roomIsShort (upd v_sets (Int32.toNatClampNeg x3) x1)) H := hP
      have hD : va_D A (ws_X0_keepSet cB cI cJ cZ a_this a_sets v_cubes v_width v_height v_depth v_setCount v_roomIsShort (upd v_sets (Int32.toNatClampNeg x3) x1)) := hD
      refine lv_aload_n hx hb dX0_keepSet_109 rfl (lv_at hl 0 rfl) ?_
      refine lv_dup hx hb dX0_keepSet_110 rfl ?_
      refine va_get (D := (dC, dI)) (ci := 1) (v := .int v_setCount) (C := RX0) (T := TX0) (N := 7) hx hb hts in_X0_keepSet_X0 hown hK hP 0 rfl rfl 5 (by decide) (hts (.fieldLink RX0 34 "LinkedCovers$Piece" "setCount" "I") lk_X0_keepSet_f34) (fun _ h9 => h9) rfl dX0_keepSet_111 ?_
      refine lv_iconst (v := 1) hx hb dX0_keepSet_114 (by decide) ?_
      refine lv_iadd hx hb dX0_keepSet_115 ?_
      refine va_put (D := (dC, dI)) (ci := 1) (v := .int (v_setCount + (1 : Int32))) (ty := .int) (C := RX0) (T := TX0) (N := 7) hx hb hts in_X0_keepSet_X0 tyX0 tyX0_ok nmX0 hown hK hP hD hS 0 rfl rfl 5 (by decide) (hts (.fieldLink RX0 34 "LinkedCovers$Piece" "setCount" "I") lk_X0_keepSet_f34) (fun _ h9 => h9) rfl (by decide +kernel) rfl rfl (Nat.le_of_ble_eq_true rfl) dX0_keepSet_116 (fun H locs hP hD hS => ?_)
      have hP : va_P (dC, dI) vwCl (ws_X0_keepSet cB cI cJ cZ a_this a_sets v_cubes v_width v_height v_depth (v_setCount + (1 : Int32)) v_roomIsShort (upd v_sets (Int32.toNatClampNeg x3) x1)) H := hP
      have hD : va_D A (ws_X0_keepSet cB cI cJ cZ a_this a_sets v_cubes v_width v_height v_depth (v_setCount + (1 : Int32)) v_roomIsShort (upd v_sets (Int32.toNatClampNeg x3) x1)) := hD
      exact W.vret hx hb hr (fun t ht hW => ⟨⟨((v_setCount + (1 : Int32)), v_roomIsShort, (upd v_sets (Int32.toNatClampNeg x3) x1)), rfl, Option.some.inj hf, by rw [ht]; exact hP, va_K.moved hW.alike hK, hD⟩, hS.F ht⟩) hS.2.2 dX0_keepSet_119
    · replace hf := (if_neg c_1).symm.trans hf
      refine lv_aload_n hx hb dX0_keepSet_80 rfl (lv_at hl 0 rfl) ?_
      refine va_get (D := (dC, dI)) (ci := 1) (v := .ref a_sets) (C := RX0) (T := TX0) (N := 7) hx hb hts in_X0_keepSet_X0 hown hK hP 0 rfl rfl 0 (by decide) (hts (.fieldLink RX0 9 "LinkedCovers$Piece" "sets" "[I") lk_X0_keepSet_f9) (fun _ h9 => h9) rfl dX0_keepSet_81 ?_
      refine lv_iload hx hb dX0_keepSet_84 (lv_at hl 3 rfl) ?_
      refine lv_aload_n hx hb dX0_keepSet_86 rfl (lv_at hl 0 rfl) ?_
      refine va_get (D := (dC, dI)) (ci := 1) (v := .ref a_sets) (C := RX0) (T := TX0) (N := 7) hx hb hts in_X0_keepSet_X0 hown hK hP 0 rfl rfl 0 (by decide) (hts (.fieldLink RX0 9 "LinkedCovers$Piece" "sets" "[I") lk_X0_keepSet_f9) (fun _ h9 => h9) rfl dX0_keepSet_87 ?_
      refine lv_iload hx hb dX0_keepSet_90 (lv_at hl 3 rfl) ?_
      refine lv_iconst (v := 1) hx hb dX0_keepSet_92 (by decide) ?_
      refine lv_isub hx hb dX0_keepSet_93 ?_
      obtain ⟨h_3, hf⟩ := gd_ck hf
      refine va_iald hx hb hK hP 1 1 rfl rfl h_3 dX0_keepSet_94 ?_
      obtain ⟨h_4, hf⟩ := gd_ck hf
      refine va_iast hx hb hK hP hD hS 1 1 rfl rfl h_4 dX0_keepSet_95 (fun H locs hP hD hS => ?_)
      have hP : va_P (dC, dI) vwCl (ws_X0_keepSet cB cI cJ cZ a_this a_sets v_cubes v_width v_height v_depth v_setCount v_roomIsShort (upd v_sets (Int32.toNatClampNeg x4) (v_sets (Int32.toNatClampNeg (x4 - (1 : Int32)))))) H := hP
      have hD : va_D A (ws_X0_keepSet cB cI cJ cZ a_this a_sets v_cubes v_width v_height v_depth v_setCount v_roomIsShort (upd v_sets (Int32.toNatClampNeg x4) (v_sets (Int32.toNatClampNeg (x4 - (1 : Int32)))))) := hD
      refine lv_iinc (v := (x4 + (-1))) (lv' := [(4, .int (x4 + (-1))), (0, .ref a_this), (1, .int x1), (3, .int x3)]) hx hb dX0_keepSet_96 hl (k := 3) rfl rfl (by decide) rfl (fun ls hl => ?_)
      refine lv_goto (tgt := 74) hx hb dX0_keepSet_99 (by decide) ?_
      exact ih v_setCount v_roomIsShort (upd v_sets (Int32.toNatClampNeg x4) (v_sets (Int32.toNatClampNeg (x4 - (1 : Int32))))) x1 x3 (x4 + (-1)) hf _ _ hP hD hS ls (lv_sub hl [1, 2, 3, 0] rfl)
set_option maxHeartbeats 4000000 in
set_option maxRecDepth 100000 in
theorem w_X0_keepSet_45 {p : Program} {l : Launch} {e : Env} {s : State} {m : MethodId} {args : Array Value} {below : List Frame} {meth : Method} {c : Code} {A : Nat → Prop} {dC : Nat → ClassId} {dI : Nat → Nat → Nat} {cB cI cJ cZ : ClassId} {a_this a_sets : Nat} {v_cubes : Int32} {v_width : Int32} {v_height : Int32} {v_depth : Int32} {out : Int32 × Int32 × (Nat → Int32)} (C0 : Cx RX0 cX0_keepSet none 5 wsX0_keepSet p s m args meth c A) (hK : va_K (dC, dI) vwCl (tysG cB cI cJ cZ) s)  : g_X0_keepSet_45 p l e s m args below meth c A dC dI cB cI cJ cZ a_this a_sets v_cubes v_width v_height v_depth out (f_X0_keepSet_45  ) := by
  obtain ⟨hx, hb, hr, hml, hown, hts, hlocks, hA⟩ := id C0
  intro v_setCount v_roomIsShort v_sets x1 x2 x3 hf H locs hP hD hS ls hl
  replace hf : ((if x2 ≤ v_setCount then
  (f_X0_keepSet_62 v_setCount v_roomIsShort v_sets)
  else
  (if v_setCount < (60 : Int32) then
  (f_X0_keepSet_74 1000000 v_setCount v_roomIsShort v_sets x1 x3 v_setCount)
  else
  (f_X0_keepSet_62 v_setCount v_roomIsShort v_sets))) : Option (Int32 × Int32 × (Nat → Int32))) = some out := hf
  refine lv_aload_n hx hb dX0_keepSet_45 rfl (lv_at hl 0 rfl) ?_
  refine va_get (D := (dC, dI)) (ci := 1) (v := .int v_setCount) (C := RX0) (T := TX0) (N := 7) hx hb hts in_X0_keepSet_X0 hown hK hP 0 rfl rfl 5 (by decide) (hts (.fieldLink RX0 34 "LinkedCovers$Piece" "setCount" "I") lk_X0_keepSet_f34) (fun _ h9 => h9) rfl dX0_keepSet_46 ?_
  refine lv_iload_n hx hb dX0_keepSet_49 rfl (lv_at hl 2 rfl) ?_
  refine lv_icmp_ge (tgt := 62) hx hb dX0_keepSet_50 (by decide) (fun c_5 => ?_) (fun c_5 => ?_)
  · replace hf := (if_pos c_5).symm.trans hf
    exact w_X0_keepSet_62 C0 hK v_setCount v_roomIsShort v_sets hf _ _ hP hD hS ls (lv_sub hl [0] rfl)
  · replace hf := (if_neg c_5).symm.trans hf
    refine lv_aload_n hx hb dX0_keepSet_53 rfl (lv_at hl 0 rfl) ?_
    refine va_get (D := (dC, dI)) (ci := 1) (v := .int v_setCount) (C := RX0) (T := TX0) (N := 7) hx hb hts in_X0_keepSet_X0 hown hK hP 0 rfl rfl 5 (by decide) (hts (.fieldLink RX0 34 "LinkedCovers$Piece" "setCount" "I") lk_X0_keepSet_f34) (fun _ h9 => h9) rfl dX0_keepSet_54 ?_
    refine lv_bipush (v := 60) hx hb dX0_keepSet_57 (by decide) ?_
    refine lv_icmp_lt (tgt := 68) hx hb dX0_keepSet_59 (by decide) (fun c_6 => ?_) (fun c_6 => ?_)
    · replace hf := (if_pos c_6).symm.trans hf
      refine lv_aload_n hx hb dX0_keepSet_68 rfl (lv_at hl 0 rfl) ?_
      refine va_get (D := (dC, dI)) (ci := 1) (v := .int v_setCount) (C := RX0) (T := TX0) (N := 7) hx hb hts in_X0_keepSet_X0 hown hK hP 0 rfl rfl 5 (by decide) (hts (.fieldLink RX0 34 "LinkedCovers$Piece" "setCount" "I") lk_X0_keepSet_f34) (fun _ h9 => h9) rfl dX0_keepSet_69 ?_
      refine lv_istore (lv' := [(4, .int v_setCount), (0, .ref a_this), (1, .int x1), (2, .int x2), (3, .int x3)]) hx hb dX0_keepSet_72 hl (by decide) rfl (fun ls hl => ?_)
      exact w_X0_keepSet_74 C0 hK 1000000 v_setCount v_roomIsShort v_sets x1 x3 v_setCount hf _ _ hP hD hS ls (lv_sub hl [1, 2, 4, 0] rfl)
    · replace hf := (if_neg c_6).symm.trans hf
      exact w_X0_keepSet_62 C0 hK v_setCount v_roomIsShort v_sets hf _ _ hP hD hS ls (lv_sub hl [0] rfl)
set_option maxHeartbeats 4000000 in
set_option maxRecDepth 100000 in
theorem w_X0_keepSet_26 {p : Program} {l : Launch} {e : Env} {s : State} {m : MethodId} {args : Array Value} {below : List Frame} {meth : Method} {c : Code} {A : Nat → Prop} {dC : Nat → ClassId} {dI : Nat → Nat → Nat} {cB cI cJ cZ : ClassId} {a_this a_sets : Nat} {v_cubes : Int32} {v_width : Int32} {v_height : Int32} {v_depth : Int32} {out : Int32 × Int32 × (Nat → Int32)} (C0 : Cx RX0 cX0_keepSet none 5 wsX0_keepSet p s m args meth c A) (hK : va_K (dC, dI) vwCl (tysG cB cI cJ cZ) s)  : g_X0_keepSet_26 p l e s m args below meth c A dC dI cB cI cJ cZ a_this a_sets v_cubes v_width v_height v_depth out (f_X0_keepSet_26  ) := by
  obtain ⟨hx, hb, hr, hml, hown, hts, hlocks, hA⟩ := id C0
  intro v_setCount v_roomIsShort v_sets x1 x2 x3 hf H locs hP hD hS ls hl
  replace hf : ((if v_setCount ≤ x3 then
  (f_X0_keepSet_45 v_setCount v_roomIsShort v_sets x1 x2 x3)
  else
  (if (x3 < 0 ∨ 60 ≤ Int32.toNatClampNeg x3) then none else
  if (v_sets (Int32.toNatClampNeg x3)) = x1 then
  (some ((v_setCount, v_roomIsShort, v_sets)))
  else
  (f_X0_keepSet_45 v_setCount v_roomIsShort v_sets x1 x2 x3))) : Option (Int32 × Int32 × (Nat → Int32))) = some out := hf
  refine lv_iload_n hx hb dX0_keepSet_26 rfl (lv_at hl 3 rfl) ?_
  refine lv_aload_n hx hb dX0_keepSet_27 rfl (lv_at hl 0 rfl) ?_
  refine va_get (D := (dC, dI)) (ci := 1) (v := .int v_setCount) (C := RX0) (T := TX0) (N := 7) hx hb hts in_X0_keepSet_X0 hown hK hP 0 rfl rfl 5 (by decide) (hts (.fieldLink RX0 34 "LinkedCovers$Piece" "setCount" "I") lk_X0_keepSet_f34) (fun _ h9 => h9) rfl dX0_keepSet_28 ?_
  refine lv_icmp_ge (tgt := 45) hx hb dX0_keepSet_31 (by decide) (fun c_7 => ?_) (fun c_7 => ?_)
  · replace hf := (if_pos c_7).symm.trans hf
    exact w_X0_keepSet_45 C0 hK v_setCount v_roomIsShort v_sets x1 x2 x3 hf _ _ hP hD hS ls (lv_sub hl [0, 1, 2, 3] rfl)
  · replace hf := (if_neg c_7).symm.trans hf
    refine lv_aload_n hx hb dX0_keepSet_34 rfl (lv_at hl 0 rfl) ?_
    refine va_get (D := (dC, dI)) (ci := 1) (v := .ref a_sets) (C := RX0) (T := TX0) (N := 7) hx hb hts in_X0_keepSet_X0 hown hK hP 0 rfl rfl 0 (by decide) (hts (.fieldLink RX0 9 "LinkedCovers$Piece" "sets" "[I") lk_X0_keepSet_f9) (fun _ h9 => h9) rfl dX0_keepSet_35 ?_
    refine lv_iload_n hx hb dX0_keepSet_38 rfl (lv_at hl 3 rfl) ?_
    obtain ⟨h_8, hf⟩ := gd_ck hf
    refine va_iald hx hb hK hP 1 1 rfl rfl h_8 dX0_keepSet_39 ?_
    refine lv_iload_n hx hb dX0_keepSet_40 rfl (lv_at hl 1 rfl) ?_
    refine lv_icmp_ne (tgt := 45) hx hb dX0_keepSet_41 (by decide) (fun c_9 => ?_) (fun c_9 => ?_)
    · replace hf := (if_neg c_9).symm.trans hf
      exact w_X0_keepSet_45 C0 hK v_setCount v_roomIsShort v_sets x1 x2 x3 hf _ _ hP hD hS ls (lv_sub hl [0, 1, 2, 3] rfl)
    · replace hf := (if_pos c_9).symm.trans hf
      exact W.vret hx hb hr (fun t ht hW => ⟨⟨(v_setCount, v_roomIsShort, v_sets), rfl, Option.some.inj hf, by rw [ht]; exact hP, va_K.moved hW.alike hK, hD⟩, hS.F ht⟩) hS.2.2 dX0_keepSet_44
set_option maxHeartbeats 4000000 in
set_option maxRecDepth 100000 in
theorem w_X0_keepSet_2 {p : Program} {l : Launch} {e : Env} {s : State} {m : MethodId} {args : Array Value} {below : List Frame} {meth : Method} {c : Code} {A : Nat → Prop} {dC : Nat → ClassId} {dI : Nat → Nat → Nat} {cB cI cJ cZ : ClassId} {a_this a_sets : Nat} {v_cubes : Int32} {v_width : Int32} {v_height : Int32} {v_depth : Int32} {out : Int32 × Int32 × (Nat → Int32)} (C0 : Cx RX0 cX0_keepSet none 5 wsX0_keepSet p s m args meth c A) (hK : va_K (dC, dI) vwCl (tysG cB cI cJ cZ) s)  : ∀ n : Nat, g_X0_keepSet_2 p l e s m args below meth c A dC dI cB cI cJ cZ a_this a_sets v_cubes v_width v_height v_depth out (f_X0_keepSet_2   n) := by
  obtain ⟨hx, hb, hr, hml, hown, hts, hlocks, hA⟩ := id C0
  intro n
  induction n with
  | zero =>
    intro v_setCount v_roomIsShort v_sets x1 x2 x3 hf H locs hP hD hS ls hl
    exact nomatch (show (none : Option (Int32 × Int32 × (Nat → Int32))) = some out from hf)
  | succ n ih =>
    intro v_setCount v_roomIsShort v_sets x1 x2 x3 hf H locs hP hD hS ls hl
    replace hf : ((if v_setCount ≤ x3 then
  (f_X0_keepSet_26 v_setCount v_roomIsShort v_sets x1 x2 x3)
  else
  (if (x3 < 0 ∨ 60 ≤ Int32.toNatClampNeg x3) then none else
  if x1 ≤ (v_sets (Int32.toNatClampNeg x3)) then
  (f_X0_keepSet_26 v_setCount v_roomIsShort v_sets x1 x2 x3)
  else
  (f_X0_keepSet_2 n v_setCount v_roomIsShort v_sets x1 x2 (x3 + 1)))) : Option (Int32 × Int32 × (Nat → Int32))) = some out := hf
    refine lv_iload_n hx hb dX0_keepSet_2 rfl (lv_at hl 3 rfl) ?_
    refine lv_aload_n hx hb dX0_keepSet_3 rfl (lv_at hl 0 rfl) ?_
    refine va_get (D := (dC, dI)) (ci := 1) (v := .int v_setCount) (C := RX0) (T := TX0) (N := 7) hx hb hts in_X0_keepSet_X0 hown hK hP 0 rfl rfl 5 (by decide) (hts (.fieldLink RX0 34 "LinkedCovers$Piece" "setCount" "I") lk_X0_keepSet_f34) (fun _ h9 => h9) rfl dX0_keepSet_4 ?_
    refine lv_icmp_ge (tgt := 26) hx hb dX0_keepSet_7 (by decide) (fun c_10 => ?_) (fun c_10 => ?_)
    · replace hf := (if_pos c_10).symm.trans hf
      exact w_X0_keepSet_26 C0 hK v_setCount v_roomIsShort v_sets x1 x2 x3 hf _ _ hP hD hS ls (lv_sub hl [0, 1, 2, 3] rfl)
    · replace hf := (if_neg c_10).symm.trans hf
      refine lv_aload_n hx hb dX0_keepSet_10 rfl (lv_at hl 0 rfl) ?_
      refine va_get (D := (dC, dI)) (ci := 1) (v := .ref a_sets) (C := RX0) (T := TX0) (N := 7) hx hb hts in_X0_keepSet_X0 hown hK hP 0 rfl rfl 0 (by decide) (hts (.fieldLink RX0 9 "LinkedCovers$Piece" "sets" "[I") lk_X0_keepSet_f9) (fun _ h9 => h9) rfl dX0_keepSet_11 ?_
      refine lv_iload_n hx hb dX0_keepSet_14 rfl (lv_at hl 3 rfl) ?_
      obtain ⟨h_11, hf⟩ := gd_ck hf
      refine va_iald hx hb hK hP 1 1 rfl rfl h_11 dX0_keepSet_15 ?_
      refine lv_iload_n hx hb dX0_keepSet_16 rfl (lv_at hl 1 rfl) ?_
      refine lv_icmp_ge (tgt := 26) hx hb dX0_keepSet_17 (by decide) (fun c_12 => ?_) (fun c_12 => ?_)
      · replace hf := (if_pos c_12).symm.trans hf
        exact w_X0_keepSet_26 C0 hK v_setCount v_roomIsShort v_sets x1 x2 x3 hf _ _ hP hD hS ls (lv_sub hl [0, 1, 2, 3] rfl)
      · replace hf := (if_neg c_12).symm.trans hf
        refine lv_iinc (v := (x3 + 1)) (lv' := [(3, .int (x3 + 1)), (0, .ref a_this), (1, .int x1), (2, .int x2)]) hx hb dX0_keepSet_20 hl (k := 3) rfl rfl (by decide) rfl (fun ls hl => ?_)
        refine lv_goto (tgt := 2) hx hb dX0_keepSet_23 (by decide) ?_
        exact ih v_setCount v_roomIsShort v_sets x1 x2 (x3 + 1) hf _ _ hP hD hS ls (lv_sub hl [1, 2, 3, 0] rfl)
set_option maxHeartbeats 4000000 in
set_option maxRecDepth 100000 in
theorem w_X0_keepSet_0 {p : Program} {l : Launch} {e : Env} {s : State} {m : MethodId} {args : Array Value} {below : List Frame} {meth : Method} {c : Code} {A : Nat → Prop} {dC : Nat → ClassId} {dI : Nat → Nat → Nat} {cB cI cJ cZ : ClassId} {a_this a_sets : Nat} {v_cubes : Int32} {v_width : Int32} {v_height : Int32} {v_depth : Int32} {out : Int32 × Int32 × (Nat → Int32)} (C0 : Cx RX0 cX0_keepSet none 5 wsX0_keepSet p s m args meth c A) (hK : va_K (dC, dI) vwCl (tysG cB cI cJ cZ) s)  : g_X0_keepSet_0 p l e s m args below meth c A dC dI cB cI cJ cZ a_this a_sets v_cubes v_width v_height v_depth out (f_X0_keepSet  ) := by
  obtain ⟨hx, hb, hr, hml, hown, hts, hlocks, hA⟩ := id C0
  intro v_setCount v_roomIsShort v_sets x1 x2 hf H locs hP hD hS ls hl
  replace hf : ((f_X0_keepSet_2 1000000 v_setCount v_roomIsShort v_sets x1 x2 (0 : Int32)) : Option (Int32 × Int32 × (Nat → Int32))) = some out := hf
  refine lv_iconst (v := 0) hx hb dX0_keepSet_0 (by decide) ?_
  refine lv_istore_n (lv' := [(3, .int (0 : Int32)), (0, .ref a_this), (1, .int x1), (2, .int x2)]) hx hb dX0_keepSet_1 rfl hl (by decide) rfl (fun ls hl => ?_)
  exact w_X0_keepSet_2 C0 hK 1000000 v_setCount v_roomIsShort v_sets x1 x2 (0 : Int32) hf _ _ hP hD hS ls (lv_sub hl [1, 2, 3, 0] rfl)
theorem nd_X0_keepSet : yX0_keepSet.cls ≠ "java/lang/invoke/MethodHandle" ∧ yX0_keepSet.cls ≠ "java/lang/invoke/VarHandle" ∧ (parseMethodDescriptor yX0_keepSet.desc).map (fun d => d.parameters.length) = some 2 := by decide +kernel
set_option maxHeartbeats 4000000 in
set_option maxRecDepth 100000 in
theorem c_X0_keepSet (l : Launch) (dC : Nat → ClassId) (dI : Nat → Nat → Nat) (cB cI cJ cZ : ClassId) (a_this a_sets : Nat) (sz : Nat) (v_cubes : Int32) (v_width : Int32) (v_height : Int32) (v_depth : Int32) (v_setCount : Int32) (v_roomIsShort : Int32) (v_sets : (Nat → Int32)) (x1 : Int32) (x2 : Int32) (out : Int32 × Int32 × (Nat → Int32)) (hf : f_X0_keepSet  v_setCount v_roomIsShort v_sets x1 x2 = some out) : Met l yX0_keepSet wsX0_keepSet rm_X0_keepSet (va_Pc [.ref a_this, .int x1, .int x2] (fun U => U.heap.size = sz ∧ va_P (dC, dI) vwCl (ws_X0_keepSet cB cI cJ cZ a_this a_sets v_cubes v_width v_height v_depth v_setCount v_roomIsShort v_sets) U.heap ∧ va_K (dC, dI) vwCl (tysG cB cI cJ cZ) U ∧ va_D (fun _ => True) (ws_X0_keepSet cB cI cJ cZ a_this a_sets v_cubes v_width v_height v_depth v_setCount v_roomIsShort v_sets))) (qc_X0_keepSet (va_A (ws_X0_keepSet cB cI cJ cZ a_this a_sets v_cubes v_width v_height v_depth v_setCount v_roomIsShort v_sets) sz) dC dI cB cI cJ cZ a_this a_sets v_cubes v_width v_height v_depth out) 0 0 (va_A (ws_X0_keepSet cB cI cJ cZ a_this a_sets v_cubes v_width v_height v_depth v_setCount v_roomIsShort v_sets) sz) := by
  refine Met.ofW (cc := cX0_keepSet) (maxL := 5) (ret := none) (by decide) rfl ?_
  intro p e s m args below meth c s₁ B hml hv
  obtain ⟨rfl, hsz, hP, hK, hD0⟩ := hv
  subst hsz
  have hD := hD0.self (sz := s.heap.size)
  generalize hAe : va_A (ws_X0_keepSet cB cI cJ cZ a_this a_sets v_cubes v_width v_height v_depth v_setCount v_roomIsShort v_sets) s.heap.size = A at hD ⊢
  have hA : ∀ q : Nat, s.heap.size ≤ q → A q := fun q h => by rw [← hAe]; exact Or.inr h
  have hl := lv_entry ([.ref a_this, .int x1, .int x2]) (n := 5) (Nat.le_of_ble_eq_true rfl)
  rw [lg_entry_eq]
  generalize (lg_sl ([.ref a_this, .int x1, .int x2]) ++ List.replicate (5 - (lg_sl ([.ref a_this, .int x1, .int x2])).length) Slot.unset).toArray = ls at hl ⊢
  have hl : lv_has ls 5 [(0, .ref a_this), (1, .int x1), (2, .int x2)] := hl
  exact w_X0_keepSet_0 ⟨B.exec, B.bytes, B.returns, hml, findClass_of_methodNamed B.named, atoms_spec (ws := wsX0_keepSet) B.pre, B.notSynchronized, hA⟩ hK v_setCount v_roomIsShort v_sets x1 x2 hf _ _ hP hD va_S.rf ls (lv_sub hl [0, 1, 2] rfl)
-- X0.moveAbout(II)V: 38 instructions
theorem in_X0_moveAbout_X0 : ∀ w ∈ wsX00, w ∈ wsX0_moveAbout := by decide +kernel
abbrev ws_X0_moveAbout (cB cI cJ cZ : ClassId) (a_this a_sets : Nat) (v_cubes : Int32) (v_width : Int32) (v_height : Int32) (v_depth : Int32) (v_setCount : Int32) (v_roomIsShort : Int32) (v_sets : (Nat → Int32)) : va_W := [(a_this, .inr (1, [.ref a_sets, .int v_cubes, .int v_width, .int v_height, .int v_depth, .int v_setCount, .int v_roomIsShort])), (a_sets, .inl (cI, 60, .inl v_sets))]
abbrev rm_X0_moveAbout : Room := { frames := 2, cells := 0, slots := 0, locals := 50 }
theorem lk_X0_moveAbout_f25 : Cond.fieldLink RX0 25 "LinkedCovers$Piece" "width" "I" ∈ wsX0_moveAbout := by decide +kernel
theorem lk_X0_moveAbout_f28 : Cond.fieldLink RX0 28 "LinkedCovers$Piece" "height" "I" ∈ wsX0_moveAbout := by decide +kernel
theorem lk_X0_moveAbout_f31 : Cond.fieldLink RX0 31 "LinkedCovers$Piece" "depth" "I" ∈ wsX0_moveAbout := by decide +kernel
def f_X0_moveAbout_61 (v_width : Int32) (v_height : Int32) (v_depth : Int32) (k_3 : Int32 → Int32 → (Nat → Int32) → Int32 → Int32 → Int32 → Option (Int32 × Int32 × (Nat → Int32))) (k_15 : Int32 → Int32 → (Nat → Int32) → Int32 → Int32 → Int32 → Int32 → Option (Int32 × Int32 × (Nat → Int32))) (k_28 : Int32 → Int32 → (Nat → Int32) → Int32 → Int32 → Int32 → Int32 → Int32 → Option (Int32 × Int32 × (Nat → Int32))) (v_setCount : Int32) (v_roomIsShort : Int32) (v_sets : (Nat → Int32)) (x1 : Int32) (x2 : Int32) (x3 : Int32) (x4 : Int32) (x5 : Int32) : Option (Int32 × Int32 × (Nat → Int32)) :=
  k_28 v_setCount v_roomIsShort v_sets x1 x2 x3 x4 (x5 + 1)
def f_X0_moveAbout_28 (v_width : Int32) (v_height : Int32) (v_depth : Int32) (k_3 : Int32 → Int32 → (Nat → Int32) → Int32 → Int32 → Int32 → Option (Int32 × Int32 × (Nat → Int32))) (k_15 : Int32 → Int32 → (Nat → Int32) → Int32 → Int32 → Int32 → Int32 → Option (Int32 × Int32 × (Nat → Int32))) : Nat → Int32 → Int32 → (Nat → Int32) → Int32 → Int32 → Int32 → Int32 → Int32 → Option (Int32 × Int32 × (Nat → Int32))
  | 0 => fun _ _ _ _ _ _ _ _ => none
  | n + 1 => fun v_setCount v_roomIsShort v_sets x1 x2 x3 x4 x5 => if v_width ≤ x5 then
  (k_15 v_setCount v_roomIsShort v_sets x1 x2 x3 (x4 + 1))
  else
  ((f_X0_setAt v_width v_height v_depth x1 x5 x4 x3).bind (fun o_2 =>
  if o_2.1 = 0 then
  (f_X0_moveAbout_61 v_width v_height v_depth k_3 k_15 (f_X0_moveAbout_28 v_width v_height v_depth k_3 k_15 n) v_setCount v_roomIsShort v_sets x1 x2 x3 x4 x5)
  else
  ((f_X0_keepSet v_setCount v_roomIsShort v_sets o_2.1 x2).bind (fun o_4 =>
  f_X0_moveAbout_61 v_width v_height v_depth k_3 k_15 (f_X0_moveAbout_28 v_width v_height v_depth k_3 k_15 n) o_4.1 o_4.2.1 o_4.2.2 x1 x2 x3 x4 x5))))
def f_X0_moveAbout_15 (v_width : Int32) (v_height : Int32) (v_depth : Int32) (k_3 : Int32 → Int32 → (Nat → Int32) → Int32 → Int32 → Int32 → Option (Int32 × Int32 × (Nat → Int32))) : Nat → Int32 → Int32 → (Nat → Int32) → Int32 → Int32 → Int32 → Int32 → Option (Int32 × Int32 × (Nat → Int32))
  | 0 => fun _ _ _ _ _ _ _ => none
  | n + 1 => fun v_setCount v_roomIsShort v_sets x1 x2 x3 x4 => if v_height ≤ x4 then
  (k_3 v_setCount v_roomIsShort v_sets x1 x2 (x3 + 1))
  else
  (f_X0_moveAbout_28 v_width v_height v_depth k_3 (f_X0_moveAbout_15 v_width v_height v_depth k_3 n) 1000000 v_setCount v_roomIsShort v_sets x1 x2 x3 x4 (-2 : Int32))
def f_X0_moveAbout_3 (v_width : Int32) (v_height : Int32) (v_depth : Int32)  : Nat → Int32 → Int32 → (Nat → Int32) → Int32 → Int32 → Int32 → Option (Int32 × Int32 × (Nat → Int32))
  | 0 => fun _ _ _ _ _ _ => none
  | n + 1 => fun v_setCount v_roomIsShort v_sets x1 x2 x3 => if v_depth ≤ x3 then
  (some ((v_setCount, v_roomIsShort, v_sets)))
  else
  (f_X0_moveAbout_15 v_width v_height v_depth (f_X0_moveAbout_3 v_width v_height v_depth n) 1000000 v_setCount v_roomIsShort v_sets x1 x2 x3 (-2 : Int32))
def f_X0_moveAbout (v_width : Int32) (v_height : Int32) (v_depth : Int32)  (v_setCount : Int32) (v_roomIsShort : Int32) (v_sets : (Nat → Int32)) (x1 : Int32) (x2 : Int32) : Option (Int32 × Int32 × (Nat → Int32)) :=
  f_X0_moveAbout_3 v_width v_height v_depth 1000000 v_setCount v_roomIsShort v_sets x1 x2 (-2 : Int32)
abbrev qc_X0_moveAbout (A : Nat → Prop) (dC : Nat → ClassId) (dI : Nat → Nat → Nat) (cB cI cJ cZ : ClassId) (a_this a_sets : Nat) (v_cubes : Int32) (v_width : Int32) (v_height : Int32) (v_depth : Int32) (out : Int32 × Int32 × (Nat → Int32)) : Array Value → State → Outcome → State → Prop := va_Qv (fun u : Int32 × Int32 × (Nat → Int32) => u = out) (fun (u : Int32 × Int32 × (Nat → Int32)) (t : State) => va_P (dC, dI) vwCl (ws_X0_moveAbout cB cI cJ cZ a_this a_sets v_cubes v_width v_height v_depth u.1 u.2.1 u.2.2) t.heap ∧ va_K (dC, dI) vwCl (tysG cB cI cJ cZ) t ∧ va_D A (ws_X0_moveAbout cB cI cJ cZ a_this a_sets v_cubes v_width v_height v_depth u.1 u.2.1 u.2.2)) A
abbrev g_X0_moveAbout_61 (p : Program) (l : Launch) (e : Env) (s : State) (m : MethodId) (args : Array Value) (below : List Frame) (meth : Method) (c : Code) (A : Nat → Prop) (dC : Nat → ClassId) (dI : Nat → Nat → Nat) (cB cI cJ cZ : ClassId) (a_this a_sets : Nat) (v_cubes : Int32) (v_width : Int32) (v_height : Int32) (v_depth : Int32) (out : Int32 × Int32 × (Nat → Int32)) (k : Int32 → Int32 → (Nat → Int32) → Int32 → Int32 → Int32 → Int32 → Int32 → Option (Int32 × Int32 × (Nat → Int32))) : Prop := ∀ (v_setCount : Int32) (v_roomIsShort : Int32) (v_sets : (Nat → Int32)) (x1 : Int32) (x2 : Int32) (x3 : Int32) (x4 : Int32) (x5 : Int32), k v_setCount v_roomIsShort v_sets x1 x2 x3 x4 x5 = some out → ∀ (H : Heap) (locs : List Loc), va_P (dC, dI) vwCl (ws_X0_moveAbout cB cI cJ cZ a_this a_sets v_cubes v_width v_height v_depth v_setCount v_roomIsShort v_sets) H → va_D A (ws_X0_moveAbout cB cI cJ cZ a_this a_sets v_cubes v_width v_height v_depth v_setCount v_roomIsShort v_sets) → va_S A s.heap H locs → ∀ (ls : Array Slot), lv_has ls 7 [(0, .ref a_this), (1, .int x1), (2, .int x2), (3, .int x3), (4, .int x4), (5, .int x5)] → W p l e (headSpec wsX0_moveAbout rm_X0_moveAbout).room s m args below meth c H locs 0 0 (MQ below (qc_X0_moveAbout A dC dI cB cI cJ cZ a_this a_sets v_cubes v_width v_height v_depth out) args s 0 0 A) (F0 m 61 ls [])
abbrev g_X0_moveAbout_28 (p : Program) (l : Launch) (e : Env) (s : State) (m : MethodId) (args : Array Value) (below : List Frame) (meth : Method) (c : Code) (A : Nat → Prop) (dC : Nat → ClassId) (dI : Nat → Nat → Nat) (cB cI cJ cZ : ClassId) (a_this a_sets : Nat) (v_cubes : Int32) (v_width : Int32) (v_height : Int32) (v_depth : Int32) (out : Int32 × Int32 × (Nat → Int32)) (k : Int32 → Int32 → (Nat → Int32) → Int32 → Int32 → Int32 → Int32 → Int32 → Option (Int32 × Int32 × (Nat → Int32))) : Prop := ∀ (v_setCount : Int32) (v_roomIsShort : Int32) (v_sets : (Nat → Int32)) (x1 : Int32) (x2 : Int32) (x3 : Int32) (x4 : Int32) (x5 : Int32), k v_setCount v_roomIsShort v_sets x1 x2 x3 x4 x5 = some out → ∀ (H : Heap) (locs : List Loc), va_P (dC, dI) vwCl (ws_X0_moveAbout cB cI cJ cZ a_this a_sets v_cubes v_width v_height v_depth v_setCount v_roomIsShort v_sets) H → va_D A (ws_X0_moveAbout cB cI cJ cZ a_this a_sets v_cubes v_width v_height v_depth v_setCount v_roomIsShort v_sets) → va_S A s.heap H locs → ∀ (ls : Array Slot), lv_has ls 7 [(0, .ref a_this), (1, .int x1), (2, .int x2), (3, .int x3), (4, .int x4), (5, .int x5)] → W p l e (headSpec wsX0_moveAbout rm_X0_moveAbout).room s m args below meth c H locs 0 0 (MQ below (qc_X0_moveAbout A dC dI cB cI cJ cZ a_this a_sets v_cubes v_width v_height v_depth out) args s 0 0 A) (F0 m 28 ls [])
abbrev g_X0_moveAbout_15 (p : Program) (l : Launch) (e : Env) (s : State) (m : MethodId) (args : Array Value) (below : List Frame) (meth : Method) (c : Code) (A : Nat → Prop) (dC : Nat → ClassId) (dI : Nat → Nat → Nat) (cB cI cJ cZ : ClassId) (a_this a_sets : Nat) (v_cubes : Int32) (v_width : Int32) (v_height : Int32) (v_depth : Int32) (out : Int32 × Int32 × (Nat → Int32)) (k : Int32 → Int32 → (Nat → Int32) → Int32 → Int32 → Int32 → Int32 → Option (Int32 × Int32 × (Nat → Int32))) : Prop := ∀ (v_setCount : Int32) (v_roomIsShort : Int32) (v_sets : (Nat → Int32)) (x1 : Int32) (x2 : Int32) (x3 : Int32) (x4 : Int32), k v_setCount v_roomIsShort v_sets x1 x2 x3 x4 = some out → ∀ (H : Heap) (locs : List Loc), va_P (dC, dI) vwCl (ws_X0_moveAbout cB cI cJ cZ a_this a_sets v_cubes v_width v_height v_depth v_setCount v_roomIsShort v_sets) H → va_D A (ws_X0_moveAbout cB cI cJ cZ a_this a_sets v_cubes v_width v_height v_depth v_setCount v_roomIsShort v_sets) → va_S A s.heap H locs → ∀ (ls : Array Slot), lv_has ls 7 [(0, .ref a_this), (1, .int x1), (2, .int x2), (3, .int x3), (4, .int x4)] → W p l e (headSpec wsX0_moveAbout rm_X0_moveAbout).room s m args below meth c H locs 0 0 (MQ below (qc_X0_moveAbout A dC dI cB cI cJ cZ a_this a_sets v_cubes v_width v_height v_depth out) args s 0 0 A) (F0 m 15 ls [])
abbrev g_X0_moveAbout_3 (p : Program) (l : Launch) (e : Env) (s : State) (m : MethodId) (args : Array Value) (below : List Frame) (meth : Method) (c : Code) (A : Nat → Prop) (dC : Nat → ClassId) (dI : Nat → Nat → Nat) (cB cI cJ cZ : ClassId) (a_this a_sets : Nat) (v_cubes : Int32) (v_width : Int32) (v_height : Int32) (v_depth : Int32) (out : Int32 × Int32 × (Nat → Int32)) (k : Int32 → Int32 → (Nat → Int32) → Int32 → Int32 → Int32 → Option (Int32 × Int32 × (Nat → Int32))) : Prop := ∀ (v_setCount : Int32) (v_roomIsShort : Int32) (v_sets : (Nat → Int32)) (x1 : Int32) (x2 : Int32) (x3 : Int32), k v_setCount v_roomIsShort v_sets x1 x2 x3 = some out → ∀ (H : Heap) (locs : List Loc), va_P (dC, dI) vwCl (ws_X0_moveAbout cB cI cJ cZ a_this a_sets v_cubes v_width v_height v_depth v_setCount v_roomIsShort v_sets) H → va_D A (ws_X0_moveAbout cB cI cJ cZ a_this a_sets v_cubes v_width v_height v_depth v_setCount v_roomIsShort v_sets) → va_S A s.heap H locs → ∀ (ls : Array Slot), lv_has ls 7 [(0, .ref a_this), (1, .int x1), (2, .int x2), (3, .int x3)] → W p l e (headSpec wsX0_moveAbout rm_X0_moveAbout).room s m args below meth c H locs 0 0 (MQ below (qc_X0_moveAbout A dC dI cB cI cJ cZ a_this a_sets v_cubes v_width v_height v_depth out) args s 0 0 A) (F0 m 3 ls [])
abbrev g_X0_moveAbout_0 (p : Program) (l : Launch) (e : Env) (s : State) (m : MethodId) (args : Array Value) (below : List Frame) (meth : Method) (c : Code) (A : Nat → Prop) (dC : Nat → ClassId) (dI : Nat → Nat → Nat) (cB cI cJ cZ : ClassId) (a_this a_sets : Nat) (v_cubes : Int32) (v_width : Int32) (v_height : Int32) (v_depth : Int32) (out : Int32 × Int32 × (Nat → Int32)) (k : Int32 → Int32 → (Nat → Int32) → Int32 → Int32 → Option (Int32 × Int32 × (Nat → Int32))) : Prop := ∀ (v_setCount : Int32) (v_roomIsShort : Int32) (v_sets : (Nat → Int32)) (x1 : Int32) (x2 : Int32), k v_setCount v_roomIsShort v_sets x1 x2 = some out → ∀ (H : Heap) (locs : List Loc), va_P (dC, dI) vwCl (ws_X0_moveAbout cB cI cJ cZ a_this a_sets v_cubes v_width v_height v_depth v_setCount v_roomIsShort v_sets) H → va_D A (ws_X0_moveAbout cB cI cJ cZ a_this a_sets v_cubes v_width v_height v_depth v_setCount v_roomIsShort v_sets) → va_S A s.heap H locs → ∀ (ls : Array Slot), lv_has ls 7 [(0, .ref a_this), (1, .int x1), (2, .int x2)] → W p l e (headSpec wsX0_moveAbout rm_X0_moveAbout).room s m args below meth c H locs 0 0 (MQ below (qc_X0_moveAbout A dC dI cB cI cJ cZ a_this a_sets v_cubes v_width v_height v_depth out) args s 0 0 A) (F0 m 0 ls [])
set_option maxHeartbeats 4000000 in
set_option maxRecDepth 100000 in
theorem w_X0_moveAbout_61 {p : Program} {l : Launch} {e : Env} {s : State} {m : MethodId} {args : Array Value} {below : List Frame} {meth : Method} {c : Code} {A : Nat → Prop} {dC : Nat → ClassId} {dI : Nat → Nat → Nat} {cB cI cJ cZ : ClassId} {a_this a_sets : Nat} {v_cubes : Int32} {v_width : Int32} {v_height : Int32} {v_depth : Int32} {out : Int32 × Int32 × (Nat → Int32)} (C0 : Cx RX0 cX0_moveAbout none 7 wsX0_moveAbout p s m args meth c A) (hK : va_K (dC, dI) vwCl (tysG cB cI cJ cZ) s) {k_3 : Int32 → Int32 → (Nat → Int32) → Int32 → Int32 → Int32 → Option (Int32 × Int32 × (Nat → Int32))} (hk_3 : g_X0_moveAbout_3 p l e s m args below meth c A dC dI cB cI cJ cZ a_this a_sets v_cubes v_width v_height v_depth out k_3) {k_15 : Int32 → Int32 → (Nat → Int32) → Int32 → Int32 → Int32 → Int32 → Option (Int32 × Int32 × (Nat → Int32))} (hk_15 : g_X0_moveAbout_15 p l e s m args below meth c A dC dI cB cI cJ cZ a_this a_sets v_cubes v_width v_height v_depth out k_15) {k_28 : Int32 → Int32 → (Nat → Int32) → Int32 → Int32 → Int32 → Int32 → Int32 → Option (Int32 × Int32 × (Nat → Int32))} (hk_28 : g_X0_moveAbout_28 p l e s m args below meth c A dC dI cB cI cJ cZ a_this a_sets v_cubes v_width v_height v_depth out k_28) : g_X0_moveAbout_61 p l e s m args below meth c A dC dI cB cI cJ cZ a_this a_sets v_cubes v_width v_height v_depth out (f_X0_moveAbout_61 v_width v_height v_depth k_3 k_15 k_28) := by
  obtain ⟨hx, hb, hr, hml, hown, hts, hlocks, hA⟩ := id C0
  intro v_setCount v_roomIsShort v_sets x1 x2 x3 x4 x5 hf H locs hP hD hS ls hl
  replace hf : ((k_28 v_setCount v_roomIsShort v_sets x1 x2 x3 x4 (x5 + 1)) : Option (Int32 × Int32 × (Nat → Int32))) = some out := hf
  refine lv_iinc (v := (x5 + 1)) (lv' := [(5, .int (x5 + 1)), (0, .ref a_this), (1, .int x1), (2, .int x2), (3, .int x3), (4, .int x4)]) hx hb dX0_moveAbout_61 hl (k := 5) rfl rfl (by decide) rfl (fun ls hl => ?_)
  refine lv_goto (tgt := 28) hx hb dX0_moveAbout_64 (by decide) ?_
  exact hk_28 v_setCount v_roomIsShort v_sets x1 x2 x3 x4 (x5 + 1) hf _ _ hP hD hS ls (lv_sub hl [1, 2, 3, 4, 5, 0] rfl)
set_option maxHeartbeats 4000000 in
set_option maxRecDepth 100000 in
theorem w_X0_moveAbout_28 {p : Program} {l : Launch} {e : Env} {s : State} {m : MethodId} {args : Array Value} {below : List Frame} {meth : Method} {c : Code} {A : Nat → Prop} {dC : Nat → ClassId} {dI : Nat → Nat → Nat} {cB cI cJ cZ : ClassId} {a_this a_sets : Nat} {v_cubes : Int32} {v_width : Int32} {v_height : Int32} {v_depth : Int32} {out : Int32 × Int32 × (Nat → Int32)} (C0 : Cx RX0 cX0_moveAbout none 7 wsX0_moveAbout p s m args meth c A) (hK : va_K (dC, dI) vwCl (tysG cB cI cJ cZ) s) {k_3 : Int32 → Int32 → (Nat → Int32) → Int32 → Int32 → Int32 → Option (Int32 × Int32 × (Nat → Int32))} (hk_3 : g_X0_moveAbout_3 p l e s m args below meth c A dC dI cB cI cJ cZ a_this a_sets v_cubes v_width v_height v_depth out k_3) {k_15 : Int32 → Int32 → (Nat → Int32) → Int32 → Int32 → Int32 → Int32 → Option (Int32 × Int32 × (Nat → Int32))} (hk_15 : g_X0_moveAbout_15 p l e s m args below meth c A dC dI cB cI cJ cZ a_this a_sets v_cubes v_width v_height v_depth out k_15) : ∀ n : Nat, g_X0_moveAbout_28 p l e s m args below meth c A dC dI cB cI cJ cZ a_this a_sets v_cubes v_width v_height v_depth out (f_X0_moveAbout_28 v_width v_height v_depth k_3 k_15 n) := by
  obtain ⟨hx, hb, hr, hml, hown, hts, hlocks, hA⟩ := id C0
  intro n
  induction n with
  | zero =>
    intro v_setCount v_roomIsShort v_sets x1 x2 x3 x4 x5 hf H locs hP hD hS ls hl
    exact nomatch (show (none : Option (Int32 × Int32 × (Nat → Int32))) = some out from hf)
  | succ n ih =>
    intro v_setCount v_roomIsShort v_sets x1 x2 x3 x4 x5 hf H locs hP hD hS ls hl
    replace hf : ((if v_width ≤ x5 then
  (k_15 v_setCount v_roomIsShort v_sets x1 x2 x3 (x4 + 1))
  else
  ((f_X0_setAt v_width v_height v_depth x1 x5 x4 x3).bind (fun o_2 =>
  if o_2.1 = 0 then
  (f_X0_moveAbout_61 v_width v_height v_depth k_3 k_15 (f_X0_moveAbout_28 v_width v_height v_depth k_3 k_15 n) v_setCount v_roomIsShort v_sets x1 x2 x3 x4 x5)
  else
  ((f_X0_keepSet v_setCount v_roomIsShort v_sets o_2.1 x2).bind (fun o_4 =>
  f_X0_moveAbout_61 v_width v_height v_depth k_3 k_15 (f_X0_moveAbout_28 v_width v_height v_depth k_3 k_15 n) o_4.1 o_4.2.1 o_4.2.2 x1 x2 x3 x4 x5))))) : Option (Int32 × Int32 × (Nat → Int32))) = some out := hf
    refine lv_iload hx hb dX0_moveAbout_28 (lv_at hl 5 rfl) ?_
    refine lv_aload_n hx hb dX0_moveAbout_30 rfl (lv_at hl 0 rfl) ?_
    refine va_get (D := (dC, dI)) (ci := 1) (v := .int v_width) (C := RX0) (T := TX0) (N := 7) hx hb hts in_X0_moveAbout_X0 hown hK hP 0 rfl rfl 2 (by decide) (hts (.fieldLink RX0 25 "LinkedCovers$Piece" "width" "I") lk_X0_moveAbout_f25) (fun _ h9 => h9) rfl dX0_moveAbout_31 ?_
    refine lv_icmp_ge (tgt := 67) hx hb dX0_moveAbout_34 (by decide) (fun c_1 => ?_) (fun c_1 => ?_)
    · replace hf := (if_pos c_1).symm.trans hf
      refine lv_iinc (v := (x4 + 1)) (lv' := [(4, .int (x4 + 1)), (0, .ref a_this), (1, .int x1), (2, .int x2), (3, .int x3), (5, .int x5)]) hx hb dX0_moveAbout_67 hl (k := 4) rfl rfl (by decide) rfl (fun ls hl => ?_)
      refine lv_goto (tgt := 15) hx hb dX0_moveAbout_70 (by decide) ?_
      exact hk_15 v_setCount v_roomIsShort v_sets x1 x2 x3 (x4 + 1) hf _ _ hP hD hS ls (lv_sub hl [1, 2, 3, 4, 0] rfl)
    · replace hf := (if_neg c_1).symm.trans hf
      refine lv_aload_n hx hb dX0_moveAbout_37 rfl (lv_at hl 0 rfl) ?_
      refine lv_iload_n hx hb dX0_moveAbout_38 rfl (lv_at hl 1 rfl) ?_
      refine lv_iload hx hb dX0_moveAbout_39 (lv_at hl 5 rfl) ?_
      refine lv_iload hx hb dX0_moveAbout_41 (lv_at hl 4 rfl) ?_
      refine lv_iload_n hx hb dX0_moveAbout_43 rfl (lv_at hl 3 rfl) ?_
      obtain ⟨o_2, ho_2, hf⟩ := gd_bd hf
      have hPc := hP.sub (ws' := ws_X0_setAt cB cI cJ cZ a_this a_sets v_cubes v_width v_height v_depth v_setCount v_roomIsShort) [0] rfl
      have hDc := hD.sub (ws' := ws_X0_setAt cB cI cJ cZ a_this a_sets v_cubes v_width v_height v_depth v_setCount v_roomIsShort) [0] (by decide) rfl
      have hFc := va_free (wc := ws_X0_setAt cB cI cJ cZ a_this a_sets v_cubes v_width v_height v_depth v_setCount v_roomIsShort) hD hS hA [0] rfl
      refine va_calli (va_runV (As := [.int x1, .int x5, .int x4, .int x3]) (rest := []) ⟨hx, hb, hml, hown, hts⟩ (c_X0_setAt l dC dI cB cI cJ cZ a_this a_sets H.size v_cubes v_width v_height v_depth v_setCount v_roomIsShort x1 x5 x4 x3 o_2 ho_2) (cwV 4 hts gX0_moveAbout_X0_setAt rfl rfl rfl ⟨rfl, nd_X0_setAt⟩ ⟨Nat.le_of_ble_eq_true rfl, Nat.le_of_ble_eq_true rfl⟩) ⟨fun a U g mk q => by obtain ⟨q0, q1, qP, qK, qD⟩ := q; exact ⟨q0, q1, qP, va_K.moved (u := U) (U := U.calling g mk a) (Vm.Alike.refl U.vm) qK, qD⟩, va_recv hK hPc (ci := 1) (q0 := 0) rfl rfl, fun U hU hW => ⟨rfl, by rw [hU], by rw [hU]; exact hPc, va_K.moved hW.alike hK, hDc.weaken (fun _ _ _ _ => trivial)⟩⟩ rfl rfl hl.1 rfl (lv_room (Nat.le_of_ble_eq_true rfl)) dX0_moveAbout_44 ⟨Nat.le_of_ble_eq_true rfl, Nat.le_of_ble_eq_true rfl⟩) hS (fun q _ h => hFc q h) hFc (fun r_2 u_2 t H1 locs ht hvm hw hB hz1 hk1 hS => ?_)
      obtain ⟨rfl, rfl⟩ := hw
      obtain ⟨hP1, hK1, hD1⟩ := hB
      rw [ht] at hP1
      obtain ⟨hP, hD⟩ := va_join (wr := [(a_sets, .inl (cI, 60, .inl v_sets))]) (w1 := ws_X0_setAt cB cI cJ cZ a_this a_sets v_cubes v_width v_height v_depth v_setCount v_roomIsShort) hP hD [0] [1] rfl rfl (by decide) (by decide) hk1 hFc hP1 hD1
      generalize H1 = H at hP hS ⊢
      have hP : va_P (dC, dI) vwCl (ws_X0_moveAbout cB cI cJ cZ a_this a_sets v_cubes v_width v_height v_depth v_setCount v_roomIsShort v_sets) H := hP.sub [1, 0] rfl
      have hD : va_D A (ws_X0_moveAbout cB cI cJ cZ a_this a_sets v_cubes v_width v_height v_depth v_setCount v_roomIsShort v_sets) := hD.sub [1, 0] (by decide) rfl
      refine lv_istore (lv' := [(6, .int o_2.1), (0, .ref a_this), (1, .int x1), (2, .int x2), (3, .int x3), (4, .int x4), (5, .int x5)]) hx hb dX0_moveAbout_47 hl (by decide) rfl (fun ls hl => ?_)
      refine lv_iload hx hb dX0_moveAbout_49 (lv_at hl 0 rfl) ?_
      refine lv_if_eq (tgt := 61) hx hb dX0_moveAbout_51 (by decide) (fun c_3 => ?_) (fun c_3 => ?_)
      · replace hf := (if_pos c_3).symm.trans hf
        exact w_X0_moveAbout_61 C0 hK hk_3 hk_15 ih v_setCount v_roomIsShort v_sets x1 x2 x3 x4 x5 hf _ _ hP hD hS ls (lv_sub hl [1, 2, 3, 4, 5, 6] rfl)
      · replace hf := (if_neg c_3).symm.trans hf
        refine lv_aload_n hx hb dX0_moveAbout_54 rfl (lv_at hl 1 rfl) ?_
        refine lv_iload hx hb dX0_moveAbout_55 (lv_at hl 0 rfl) ?_
        refine lv_iload_n hx hb dX0_moveAbout_57 rfl (lv_at hl 3 rfl) ?_
        obtain ⟨o_4, ho_4, hf⟩ := gd_bd hf
        have hPc := hP.sub (ws' := ws_X0_keepSet cB cI cJ cZ a_this a_sets v_cubes v_width v_height v_depth v_setCount v_roomIsShort v_sets) [0, 1] rfl
        have hDc := hD.sub (ws' := ws_X0_keepSet cB cI cJ cZ a_this a_sets v_cubes v_width v_height v_depth v_setCount v_roomIsShort v_sets) [0, 1] (by decide) rfl
        have hFc := va_free (wc := ws_X0_keepSet cB cI cJ cZ a_this a_sets v_cubes v_width v_height v_depth v_setCount v_roomIsShort v_sets) hD hS hA [0, 1] rfl
        refine va_callv (va_runV (As := [.int o_2.1, .int x2]) (rest := []) ⟨hx, hb, hml, hown, hts⟩ (c_X0_keepSet l dC dI cB cI cJ cZ a_this a_sets H.size v_cubes v_width v_height v_depth v_setCount v_roomIsShort v_sets o_2.1 x2 o_4 ho_4) (cwV 2 hts gX0_moveAbout_X0_keepSet rfl rfl rfl ⟨rfl, nd_X0_keepSet⟩ ⟨Nat.le_of_ble_eq_true rfl, Nat.le_of_ble_eq_true rfl⟩) ⟨fun a U g mk q => by obtain ⟨q0, q1, qP, qK, qD⟩ := q; exact ⟨q0, q1, qP, va_K.moved (u := U) (U := U.calling g mk a) (Vm.Alike.refl U.vm) qK, qD⟩, va_recv hK hPc (ci := 1) (q0 := 0) rfl rfl, fun U hU hW => ⟨rfl, by rw [hU], by rw [hU]; exact hPc, va_K.moved hW.alike hK, hDc.weaken (fun _ _ _ _ => trivial)⟩⟩ rfl rfl hl.1 rfl (lv_room (Nat.le_of_ble_eq_true rfl)) dX0_moveAbout_58 ⟨Nat.le_of_ble_eq_true rfl, Nat.le_of_ble_eq_true rfl⟩) hS (fun q _ h => hFc q h) hFc (fun u_4 t H1 locs ht hvm hw hB hz1 hk1 hS => ?_)
        subst u_4
        obtain ⟨hP1, hK1, hD1⟩ := hB
        rw [ht] at hP1
        obtain ⟨hP, hD⟩ := va_join (wr := []) (w1 := ws_X0_keepSet cB cI cJ cZ a_this a_sets v_cubes v_width v_height v_depth o_4.1 o_4.2.1 o_4.2.2) hP hD [0, 1] [] rfl rfl (by decide) (by decide) hk1 hFc hP1 hD1
        generalize H1 = H at hP hS ⊢
        have hP : va_P (dC, dI) vwCl (ws_X0_moveAbout cB cI cJ cZ a_this a_sets v_cubes v_width v_height v_depth o_4.1 o_4.2.1 o_4.2.2) H := hP.sub [0, 1] rfl
        have hD : va_D A (ws_X0_moveAbout cB cI cJ cZ a_this a_sets v_cubes v_width v_height v_depth o_4.1 o_4.2.1 o_4.2.2) := hD.sub [0, 1] (by decide) rfl
        exact w_X0_moveAbout_61 C0 hK hk_3 hk_15 ih o_4.1 o_4.2.1 o_4.2.2 x1 x2 x3 x4 x5 hf _ _ hP hD hS ls (lv_sub hl [1, 2, 3, 4, 5, 6] rfl)
set_option maxHeartbeats 4000000 in
set_option maxRecDepth 100000 in
theorem w_X0_moveAbout_15 {p : Program} {l : Launch} {e : Env} {s : State} {m : MethodId} {args : Array Value} {below : List Frame} {meth : Method} {c : Code} {A : Nat → Prop} {dC : Nat → ClassId} {dI : Nat → Nat → Nat} {cB cI cJ cZ : ClassId} {a_this a_sets : Nat} {v_cubes : Int32} {v_width : Int32} {v_height : Int32} {v_depth : Int32} {out : Int32 × Int32 × (Nat → Int32)} (C0 : Cx RX0 cX0_moveAbout none 7 wsX0_moveAbout p s m args meth c A) (hK : va_K (dC, dI) vwCl (tysG cB cI cJ cZ) s) {k_3 : Int32 → Int32 → (Nat → Int32) → Int32 → Int32 → Int32 → Option (Int32 × Int32 × (Nat → Int32))} (hk_3 : g_X0_moveAbout_3 p l e s m args below meth c A dC dI cB cI cJ cZ a_this a_sets v_cubes v_width v_height v_depth out k_3) : ∀ n : Nat, g_X0_moveAbout_15 p l e s m args below meth c A dC dI cB cI cJ cZ a_this a_sets v_cubes v_width v_height v_depth out (f_X0_moveAbout_15 v_width v_height v_depth k_3 n) := by
  obtain ⟨hx, hb, hr, hml, hown, hts, hlocks, hA⟩ := id C0
  intro n
  induction n with
  | zero =>
    intro v_setCount v_roomIsShort v_sets x1 x2 x3 x4 hf H locs hP hD hS ls hl
    exact nomatch (show (none : Option (Int32 × Int32 × (Nat → Int32))) = some out from hf)
  | succ n ih =>
    intro v_setCount v_roomIsShort v_sets x1 x2 x3 x4 hf H locs hP hD hS ls hl
    replace hf : ((if v_height ≤ x4 then
  (k_3 v_setCount v_roomIsShort v_sets x1 x2 (x3 + 1))
  else
  (f_X0_moveAbout_28 v_width v_height v_depth k_3 (f_X0_moveAbout_15 v_width v_height v_depth k_3 n) 1000000 v_setCount v_roomIsShort v_sets x1 x2 x3 x4 (-2 : Int32))) : Option (Int32 × Int32 × (Nat → Int32))) = some out := hf
    refine lv_iload hx hb dX0_moveAbout_15 (lv_at hl 4 rfl) ?_
    refine lv_aload_n hx hb dX0_moveAbout_17 rfl (lv_at hl 0 rfl) ?_
    refine va_get (D := (dC, dI)) (ci := 1) (v := .int v_height) (C := RX0) (T := TX0) (N := 7) hx hb hts in_X0_moveAbout_X0 hown hK hP 0 rfl rfl 3 (by decide) (hts (.fieldLink RX0 28 "LinkedCovers$Piece" "height" "I") lk_X0_moveAbout_f28) (fun _ h9 => h9) rfl dX0_moveAbout_18 ?_
    refine lv_icmp_ge (tgt := 73) hx hb dX0_moveAbout_21 (by decide) (fun c_5 => ?_) (fun c_5 => ?_)
    · replace hf := (if_pos c_5).symm.trans hf
      refine lv_iinc (v := (x3 + 1)) (lv' := [(3, .int (x3 + 1)), (0, .ref a_this), (1, .int x1), (2, .int x2), (4, .int x4)]) hx hb dX0_moveAbout_73 hl (k := 3) rfl rfl (by decide) rfl (fun ls hl => ?_)
      refine lv_goto (tgt := 3) hx hb dX0_moveAbout_76 (by decide) ?_
      exact hk_3 v_setCount v_roomIsShort v_sets x1 x2 (x3 + 1) hf _ _ hP hD hS ls (lv_sub hl [1, 2, 3, 0] rfl)
    · replace hf := (if_neg c_5).symm.trans hf
      refine lv_bipush (v := -2) hx hb dX0_moveAbout_24 (by decide) ?_
      refine lv_istore (lv' := [(5, .int (-2 : Int32)), (0, .ref a_this), (1, .int x1), (2, .int x2), (3, .int x3), (4, .int x4)]) hx hb dX0_moveAbout_26 hl (by decide) rfl (fun ls hl => ?_)
      exact w_X0_moveAbout_28 C0 hK hk_3 ih 1000000 v_setCount v_roomIsShort v_sets x1 x2 x3 x4 (-2 : Int32) hf _ _ hP hD hS ls (lv_sub hl [1, 2, 3, 4, 5, 0] rfl)
set_option maxHeartbeats 4000000 in
set_option maxRecDepth 100000 in
theorem w_X0_moveAbout_3 {p : Program} {l : Launch} {e : Env} {s : State} {m : MethodId} {args : Array Value} {below : List Frame} {meth : Method} {c : Code} {A : Nat → Prop} {dC : Nat → ClassId} {dI : Nat → Nat → Nat} {cB cI cJ cZ : ClassId} {a_this a_sets : Nat} {v_cubes : Int32} {v_width : Int32} {v_height : Int32} {v_depth : Int32} {out : Int32 × Int32 × (Nat → Int32)} (C0 : Cx RX0 cX0_moveAbout none 7 wsX0_moveAbout p s m args meth c A) (hK : va_K (dC, dI) vwCl (tysG cB cI cJ cZ) s)  : ∀ n : Nat, g_X0_moveAbout_3 p l e s m args below meth c A dC dI cB cI cJ cZ a_this a_sets v_cubes v_width v_height v_depth out (f_X0_moveAbout_3 v_width v_height v_depth  n) := by
  obtain ⟨hx, hb, hr, hml, hown, hts, hlocks, hA⟩ := id C0
  intro n
  induction n with
  | zero =>
    intro v_setCount v_roomIsShort v_sets x1 x2 x3 hf H locs hP hD hS ls hl
    exact nomatch (show (none : Option (Int32 × Int32 × (Nat → Int32))) = some out from hf)
  | succ n ih =>
    intro v_setCount v_roomIsShort v_sets x1 x2 x3 hf H locs hP hD hS ls hl
    replace hf : ((if v_depth ≤ x3 then
  (some ((v_setCount, v_roomIsShort, v_sets)))
  else
  (f_X0_moveAbout_15 v_width v_height v_depth (f_X0_moveAbout_3 v_width v_height v_depth n) 1000000 v_setCount v_roomIsShort v_sets x1 x2 x3 (-2 : Int32))) : Option (Int32 × Int32 × (Nat → Int32))) = some out := hf
    refine lv_iload_n hx hb dX0_moveAbout_3 rfl (lv_at hl 3 rfl) ?_
    refine lv_aload_n hx hb dX0_moveAbout_4 rfl (lv_at hl 0 rfl) ?_
    refine va_get (D := (dC, dI)) (ci := 1) (v := .int v_depth) (C := RX0) (T := TX0) (N := 7) hx hb hts in_X0_moveAbout_X0 hown hK hP 0 rfl rfl 4 (by decide) (hts (.fieldLink RX0 31 "LinkedCovers$Piece" "depth" "I") lk_X0_moveAbout_f31) (fun _ h9 => h9) rfl dX0_moveAbout_5 ?_
    refine lv_icmp_ge (tgt := 79) hx hb dX0_moveAbout_8 (by decide) (fun c_6 => ?_) (fun c_6 => ?_)
    · replace hf := (if_pos c_6).symm.trans hf
      exact W.vret hx hb hr (fun t ht hW => ⟨⟨(v_setCount, v_roomIsShort, v_sets), rfl, Option.some.inj hf, by rw [ht]; exact hP, va_K.moved hW.alike hK, hD⟩, hS.F ht⟩) hS.2.2 dX0_moveAbout_79
    · replace hf := (if_neg c_6).symm.trans hf
      refine lv_bipush (v := -2) hx hb dX0_moveAbout_11 (by decide) ?_
      refine lv_istore (lv' := [(4, .int (-2 : Int32)), (0, .ref a_this), (1, .int x1), (2, .int x2), (3, .int x3)]) hx hb dX0_moveAbout_13 hl (by decide) rfl (fun ls hl => ?_)
      exact w_X0_moveAbout_15 C0 hK ih 1000000 v_setCount v_roomIsShort v_sets x1 x2 x3 (-2 : Int32) hf _ _ hP hD hS ls (lv_sub hl [1, 2, 3, 4, 0] rfl)
set_option maxHeartbeats 4000000 in
set_option maxRecDepth 100000 in
theorem w_X0_moveAbout_0 {p : Program} {l : Launch} {e : Env} {s : State} {m : MethodId} {args : Array Value} {below : List Frame} {meth : Method} {c : Code} {A : Nat → Prop} {dC : Nat → ClassId} {dI : Nat → Nat → Nat} {cB cI cJ cZ : ClassId} {a_this a_sets : Nat} {v_cubes : Int32} {v_width : Int32} {v_height : Int32} {v_depth : Int32} {out : Int32 × Int32 × (Nat → Int32)} (C0 : Cx RX0 cX0_moveAbout none 7 wsX0_moveAbout p s m args meth c A) (hK : va_K (dC, dI) vwCl (tysG cB cI cJ cZ) s)  : g_X0_moveAbout_0 p l e s m args below meth c A dC dI cB cI cJ cZ a_this a_sets v_cubes v_width v_height v_depth out (f_X0_moveAbout v_width v_height v_depth ) := by
  obtain ⟨hx, hb, hr, hml, hown, hts, hlocks, hA⟩ := id C0
  intro v_setCount v_roomIsShort v_sets x1 x2 hf H locs hP hD hS ls hl
  replace hf : ((f_X0_moveAbout_3 v_width v_height v_depth 1000000 v_setCount v_roomIsShort v_sets x1 x2 (-2 : Int32)) : Option (Int32 × Int32 × (Nat → Int32))) = some out := hf
  refine lv_bipush (v := -2) hx hb dX0_moveAbout_0 (by decide) ?_
  refine lv_istore_n (lv' := [(3, .int (-2 : Int32)), (0, .ref a_this), (1, .int x1), (2, .int x2)]) hx hb dX0_moveAbout_2 rfl hl (by decide) rfl (fun ls hl => ?_)
  exact w_X0_moveAbout_3 C0 hK 1000000 v_setCount v_roomIsShort v_sets x1 x2 (-2 : Int32) hf _ _ hP hD hS ls (lv_sub hl [1, 2, 3, 0] rfl)
theorem nd_X0_moveAbout : yX0_moveAbout.cls ≠ "java/lang/invoke/MethodHandle" ∧ yX0_moveAbout.cls ≠ "java/lang/invoke/VarHandle" ∧ (parseMethodDescriptor yX0_moveAbout.desc).map (fun d => d.parameters.length) = some 2 := by decide +kernel
set_option maxHeartbeats 4000000 in
set_option maxRecDepth 100000 in
theorem c_X0_moveAbout (l : Launch) (dC : Nat → ClassId) (dI : Nat → Nat → Nat) (cB cI cJ cZ : ClassId) (a_this a_sets : Nat) (sz : Nat) (v_cubes : Int32) (v_width : Int32) (v_height : Int32) (v_depth : Int32) (v_setCount : Int32) (v_roomIsShort : Int32) (v_sets : (Nat → Int32)) (x1 : Int32) (x2 : Int32) (out : Int32 × Int32 × (Nat → Int32)) (hf : f_X0_moveAbout v_width v_height v_depth v_setCount v_roomIsShort v_sets x1 x2 = some out) : Met l yX0_moveAbout wsX0_moveAbout rm_X0_moveAbout (va_Pc [.ref a_this, .int x1, .int x2] (fun U => U.heap.size = sz ∧ va_P (dC, dI) vwCl (ws_X0_moveAbout cB cI cJ cZ a_this a_sets v_cubes v_width v_height v_depth v_setCount v_roomIsShort v_sets) U.heap ∧ va_K (dC, dI) vwCl (tysG cB cI cJ cZ) U ∧ va_D (fun _ => True) (ws_X0_moveAbout cB cI cJ cZ a_this a_sets v_cubes v_width v_height v_depth v_setCount v_roomIsShort v_sets))) (qc_X0_moveAbout (va_A (ws_X0_moveAbout cB cI cJ cZ a_this a_sets v_cubes v_width v_height v_depth v_setCount v_roomIsShort v_sets) sz) dC dI cB cI cJ cZ a_this a_sets v_cubes v_width v_height v_depth out) 0 0 (va_A (ws_X0_moveAbout cB cI cJ cZ a_this a_sets v_cubes v_width v_height v_depth v_setCount v_roomIsShort v_sets) sz) := by
  refine Met.ofW (cc := cX0_moveAbout) (maxL := 7) (ret := none) (by decide) rfl ?_
  intro p e s m args below meth c s₁ B hml hv
  obtain ⟨rfl, hsz, hP, hK, hD0⟩ := hv
  subst hsz
  have hD := hD0.self (sz := s.heap.size)
  generalize hAe : va_A (ws_X0_moveAbout cB cI cJ cZ a_this a_sets v_cubes v_width v_height v_depth v_setCount v_roomIsShort v_sets) s.heap.size = A at hD ⊢
  have hA : ∀ q : Nat, s.heap.size ≤ q → A q := fun q h => by rw [← hAe]; exact Or.inr h
  have hl := lv_entry ([.ref a_this, .int x1, .int x2]) (n := 7) (Nat.le_of_ble_eq_true rfl)
  rw [lg_entry_eq]
  generalize (lg_sl ([.ref a_this, .int x1, .int x2]) ++ List.replicate (7 - (lg_sl ([.ref a_this, .int x1, .int x2])).length) Slot.unset).toArray = ls at hl ⊢
  have hl : lv_has ls 7 [(0, .ref a_this), (1, .int x1), (2, .int x2)] := hl
  exact w_X0_moveAbout_0 ⟨B.exec, B.bytes, B.returns, hml, findClass_of_methodNamed B.named, atoms_spec (ws := wsX0_moveAbout) B.pre, B.notSynchronized, hA⟩ hK v_setCount v_roomIsShort v_sets x1 x2 hf _ _ hP hD va_S.rf ls (lv_sub hl [0, 1, 2] rfl)
