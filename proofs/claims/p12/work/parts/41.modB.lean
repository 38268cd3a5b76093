-- X5.throwsIf(IZ)Z: 9 instructions
theorem in_X5_throwsIf_X5 : ∀ w ∈ wsX50, w ∈ wsX5_throwsIf := by decide +kernel
abbrev ws_X5_throwsIf (cB cI cJ cZ : ClassId) (a_this a_times a_bits a_colours a_cube a_laid a_takes a_choice a_isChosen a_column a_next a_barredAt a_ways a_own a_goes a_rowGoes a_mark a_count a_colour : Nat) (v_thrown : Int32) (v_columns : Int32) (v_needed : Int32) (v_rows : Int32) (v_cubes : Int32) (v_placements : Int32) (v_taken : Int32) (v_chosen : Int32) (v_nodes : Int32) (v_found : Int32) (v_isSpent : Int32) (v_told : Int32) (v_kept : Int32) (v_turns : Int32) (v_toldNodes : Int32) : va_W := [(a_this, .inr (6, [.int v_thrown, .int v_columns, .int v_needed, .ref a_times, .int v_rows, .ref a_bits, .ref a_colours, .int v_cubes, .ref a_cube, .ref a_laid, .int v_placements, .int v_taken, .ref a_takes, .int v_chosen, .ref a_choice, .ref a_isChosen, .ref a_column, .ref a_next, .ref a_barredAt, .int v_nodes, .int v_found, .int v_isSpent, .int v_told, .int v_kept, .ref a_ways, .ref a_own, .int v_turns, .ref a_goes, .ref a_rowGoes, .ref a_mark, .ref a_count, .ref a_colour, .int v_toldNodes]))]
abbrev rm_X5_throwsIf : Room := { frames := 0, cells := 0, slots := 0, locals := 0 }
theorem lk_X5_throwsIf_f73 : Cond.fieldLink RX5 73 "LinkedCoversModel" "thrown" "I" ∈ wsX5_throwsIf := by decide +kernel
def f_X5_throwsIf_10   (v_thrown : Int32) (x2 : Int32) (y0 : Int32) : Option (Int32 × Int32) :=
  if ¬ (x2 = 0 ∨ x2 = 1) then none else
  some ((x2, y0))
def f_X5_throwsIf   (v_thrown : Int32) (x1 : Int32) (x2 : Int32) : Option (Int32 × Int32) :=
  if x2 = 0 then
  (f_X5_throwsIf_10 v_thrown x2 (0 : Int32))
  else
  (f_X5_throwsIf_10 v_thrown x2 x1)
abbrev qc_X5_throwsIf (A : Nat → Prop) (dC : Nat → ClassId) (dI : Nat → Nat → Nat) (cB cI cJ cZ : ClassId) (a_this a_times a_bits a_colours a_cube a_laid a_takes a_choice a_isChosen a_column a_next a_barredAt a_ways a_own a_goes a_rowGoes a_mark a_count a_colour : Nat) (v_columns : Int32) (v_needed : Int32) (v_rows : Int32) (v_cubes : Int32) (v_placements : Int32) (v_taken : Int32) (v_chosen : Int32) (v_nodes : Int32) (v_found : Int32) (v_isSpent : Int32) (v_told : Int32) (v_kept : Int32) (v_turns : Int32) (v_toldNodes : Int32) (out : Int32 × Int32) : Array Value → State → Outcome → State → Prop := va_Qi (fun (r : Int32) (u : Int32) => r = out.1 ∧ u = out.2) (fun (u : Int32) (t : State) => va_P (dC, dI) vwCl (ws_X5_throwsIf cB cI cJ cZ a_this a_times a_bits a_colours a_cube a_laid a_takes a_choice a_isChosen a_column a_next a_barredAt a_ways a_own a_goes a_rowGoes a_mark a_count a_colour u v_columns v_needed v_rows v_cubes v_placements v_taken v_chosen v_nodes v_found v_isSpent v_told v_kept v_turns v_toldNodes) t.heap ∧ va_K (dC, dI) vwCl (tysG cB cI cJ cZ) t ∧ va_D A (ws_X5_throwsIf cB cI cJ cZ a_this a_times a_bits a_colours a_cube a_laid a_takes a_choice a_isChosen a_column a_next a_barredAt a_ways a_own a_goes a_rowGoes a_mark a_count a_colour u v_columns v_needed v_rows v_cubes v_placements v_taken v_chosen v_nodes v_found v_isSpent v_told v_kept v_turns v_toldNodes)) A
abbrev g_X5_throwsIf_10 (p : Program) (l : Launch) (e : Env) (s : State) (m : MethodId) (args : Array Value) (below : List Frame) (meth : Method) (c : Code) (A : Nat → Prop) (dC : Nat → ClassId) (dI : Nat → Nat → Nat) (cB cI cJ cZ : ClassId) (a_this a_times a_bits a_colours a_cube a_laid a_takes a_choice a_isChosen a_column a_next a_barredAt a_ways a_own a_goes a_rowGoes a_mark a_count a_colour : Nat) (v_columns : Int32) (v_needed : Int32) (v_rows : Int32) (v_cubes : Int32) (v_placements : Int32) (v_taken : Int32) (v_chosen : Int32) (v_nodes : Int32) (v_found : Int32) (v_isSpent : Int32) (v_told : Int32) (v_kept : Int32) (v_turns : Int32) (v_toldNodes : Int32) (out : Int32 × Int32) (k : Int32 → Int32 → Int32 → Option (Int32 × Int32)) : Prop := ∀ (v_thrown : Int32) (x2 : Int32) (y0 : Int32), k v_thrown x2 y0 = some out → ∀ (H : Heap) (locs : List Loc), va_P (dC, dI) vwCl (ws_X5_throwsIf cB cI cJ cZ a_this a_times a_bits a_colours a_cube a_laid a_takes a_choice a_isChosen a_column a_next a_barredAt a_ways a_own a_goes a_rowGoes a_mark a_count a_colour v_thrown v_columns v_needed v_rows v_cubes v_placements v_taken v_chosen v_nodes v_found v_isSpent v_told v_kept v_turns v_toldNodes) H → va_D A (ws_X5_throwsIf cB cI cJ cZ a_this a_times a_bits a_colours a_cube a_laid a_takes a_choice a_isChosen a_column a_next a_barredAt a_ways a_own a_goes a_rowGoes a_mark a_count a_colour v_thrown v_columns v_needed v_rows v_cubes v_placements v_taken v_chosen v_nodes v_found v_isSpent v_told v_kept v_turns v_toldNodes) → va_S A s.heap H locs → ∀ (ls : Array Slot), lv_has ls 3 [(2, .int x2)] → W p l e (headSpec wsX5_throwsIf rm_X5_throwsIf).room s m args below meth c H locs 0 0 (MQ below (qc_X5_throwsIf A dC dI cB cI cJ cZ a_this a_times a_bits a_colours a_cube a_laid a_takes a_choice a_isChosen a_column a_next a_barredAt a_ways a_own a_goes a_rowGoes a_mark a_count a_colour v_columns v_needed v_rows v_cubes v_placements v_taken v_chosen v_nodes v_found v_isSpent v_told v_kept v_turns v_toldNodes out) args s 0 0 A) (F0 m 10 ls [.int y0, .ref a_this])
abbrev g_X5_throwsIf_0 (p : Program) (l : Launch) (e : Env) (s : State) (m : MethodId) (args : Array Value) (below : List Frame) (meth : Method) (c : Code) (A : Nat → Prop) (dC : Nat → ClassId) (dI : Nat → Nat → Nat) (cB cI cJ cZ : ClassId) (a_this a_times a_bits a_colours a_cube a_laid a_takes a_choice a_isChosen a_column a_next a_barredAt a_ways a_own a_goes a_rowGoes a_mark a_count a_colour : Nat) (v_columns : Int32) (v_needed : Int32) (v_rows : Int32) (v_cubes : Int32) (v_placements : Int32) (v_taken : Int32) (v_chosen : Int32) (v_nodes : Int32) (v_found : Int32) (v_isSpent : Int32) (v_told : Int32) (v_kept : Int32) (v_turns : Int32) (v_toldNodes : Int32) (out : Int32 × Int32) (k : Int32 → Int32 → Int32 → Option (Int32 × Int32)) : Prop := ∀ (v_thrown : Int32) (x1 : Int32) (x2 : Int32), k v_thrown x1 x2 = some out → ∀ (H : Heap) (locs : List Loc), va_P (dC, dI) vwCl (ws_X5_throwsIf cB cI cJ cZ a_this a_times a_bits a_colours a_cube a_laid a_takes a_choice a_isChosen a_column a_next a_barredAt a_ways a_own a_goes a_rowGoes a_mark a_count a_colour v_thrown v_columns v_needed v_rows v_cubes v_placements v_taken v_chosen v_nodes v_found v_isSpent v_told v_kept v_turns v_toldNodes) H → va_D A (ws_X5_throwsIf cB cI cJ cZ a_this a_times a_bits a_colours a_cube a_laid a_takes a_choice a_isChosen a_column a_next a_barredAt a_ways a_own a_goes a_rowGoes a_mark a_count a_colour v_thrown v_columns v_needed v_rows v_cubes v_placements v_taken v_chosen v_nodes v_found v_isSpent v_told v_kept v_turns v_toldNodes) → va_S A s.heap H locs → ∀ (ls : Array Slot), lv_has ls 3 [(0, .ref a_this), (1, .int x1), (2, .int x2)] → W p l e (headSpec wsX5_throwsIf rm_X5_throwsIf).room s m args below meth c H locs 0 0 (MQ below (qc_X5_throwsIf A dC dI cB cI cJ cZ a_this a_times a_bits a_colours a_cube a_laid a_takes a_choice a_isChosen a_column a_next a_barredAt a_ways a_own a_goes a_rowGoes a_mark a_count a_colour v_columns v_needed v_rows v_cubes v_placements v_taken v_chosen v_nodes v_found v_isSpent v_told v_kept v_turns v_toldNodes out) args s 0 0 A) (F0 m 0 ls [])
set_option maxHeartbeats 4000000 in
set_option maxRecDepth 100000 in
theorem w_X5_throwsIf_10 {p : Program} {l : Launch} {e : Env} {s : State} {m : MethodId} {args : Array Value} {below : List Frame} {meth : Method} {c : Code} {A : Nat → Prop} {dC : Nat → ClassId} {dI : Nat → Nat → Nat} {cB cI cJ cZ : ClassId} {a_this a_times a_bits a_colours a_cube a_laid a_takes a_choice a_isChosen a_column a_next a_barredAt a_ways a_own a_goes a_rowGoes a_mark a_count a_colour : Nat} {v_columns : Int32} {v_needed : Int32} {v_rows : Int32} {v_cubes : Int32} {v_placements : Int32} {v_taken : Int32} {v_chosen : Int32} {v_nodes : Int32} {v_found : Int32} {v_isSpent : Int32} {v_told : Int32} {v_kept : Int32} {v_turns : Int32} {v_toldNodes : Int32} {out : Int32 × Int32} (C0 : Cx RX5 cX5_throwsIf (some .boolean) 3 wsX5_throwsIf p s m args meth c A) (hK : va_K (dC, dI) vwCl (tysG cB cI cJ cZ) s)  : g_X5_throwsIf_10 p l e s m args below meth c A dC dI cB cI cJ cZ a_this a_times a_bits a_colours a_cube a_laid a_takes a_choice a_isChosen a_column a_next a_barredAt a_ways a_own a_goes a_rowGoes a_mark a_count a_colour v_columns v_needed v_rows v_cubes v_placements v_taken v_chosen v_nodes v_found v_isSpent v_told v_kept v_turns v_toldNodes out (f_X5_throwsIf_10  ) := by
  obtain ⟨hx, hb, hr, hml, hown, hts, hlocks, hA⟩ := id C0
  intro v_thrown x2 y0 hf H locs hP hD hS ls hl
  replace hf : ((if ¬ (x2 = 0 ∨ x2 = 1) then none else
  some ((x2, y0))) : Option (Int32 × Int32)) = some out := hf
  refine va_put (D := (dC, dI)) (ci := 6) (v := .int y0) (ty := .int) (C := RX5) (T := TX5) (N := 33) hx hb hts in_X5_throwsIf_X5 tyX5 tyX5_ok nmX5 hown hK hP hD hS 0 rfl rfl 0 (by decide) (hts (.fieldLink RX5 73 "LinkedCoversModel" "thrown" "I") lk_X5_throwsIf_f73) (fun _ h9 => h9) rfl (by decide +kernel) rfl rfl (Nat.le_of_ble_eq_true rfl) dX5_throwsIf_10 (fun H locs hP hD hS => ?_)
  have hP : va_P (dC, dI) vwCl (ws_X5_throwsIf cB cI cJ cZ a_this a_times a_bits a_colours a_cube a_laid a_takes a_choice a_isChosen a_column a_next a_barredAt a_ways a_own a_goes a_rowGoes a_mark a_count a_colour y0 v_columns v_needed v_rows v_cubes v_placements v_taken v_chosen v_nodes v_found v_isSpent v_told v_kept v_turns v_toldNodes) H := hP
  have hD : va_D A (ws_X5_throwsIf cB cI cJ cZ a_this a_times a_bits a_colours a_cube a_laid a_takes a_choice a_isChosen a_column a_next a_barredAt a_ways a_own a_goes a_rowGoes a_mark a_count a_colour y0 v_columns v_needed v_rows v_cubes v_placements v_taken v_chosen v_nodes v_found v_isSpent v_told v_kept v_turns v_toldNodes) := hD
  refine lv_iload_n hx hb dX5_throwsIf_13 rfl (lv_at hl 0 rfl) ?_
  obtain ⟨h_1, hf⟩ := gd_ck hf
  have h9 := Option.some.inj hf
  have h8 := congrArg Prod.fst h9
  have h7 := congrArg Prod.snd h9
  exact W.zret (v := x2) hx hb hr (gd_z h_1) (fun t ht hW => ⟨⟨x2, y0, rfl, ⟨h8, h7⟩, by rw [ht]; exact hP, va_K.moved hW.alike hK, hD⟩, hS.F ht⟩) hS.2.2 dX5_throwsIf_14
set_option maxHeartbeats 4000000 in
set_option maxRecDepth 100000 in
theorem w_X5_throwsIf_0 {p : Program} {l : Launch} {e : Env} {s : State} {m : MethodId} {args : Array Value} {below : List Frame} {meth : Method} {c : Code} {A : Nat → Prop} {dC : Nat → ClassId} {dI : Nat → Nat → Nat} {cB cI cJ cZ : ClassId} {a_this a_times a_bits a_colours a_cube a_laid a_takes a_choice a_isChosen a_column a_next a_barredAt a_ways a_own a_goes a_rowGoes a_mark a_count a_colour : Nat} {v_columns : Int32} {v_needed : Int32} {v_rows : Int32} {v_cubes : Int32} {v_placements : Int32} {v_taken : Int32} {v_chosen : Int32} {v_nodes : Int32} {v_found : Int32} {v_isSpent : Int32} {v_told : Int32} {v_kept : Int32} {v_turns : Int32} {v_toldNodes : Int32} {out : Int32 × Int32} (C0 : Cx RX5 cX5_throwsIf (some .boolean) 3 wsX5_throwsIf p s m args meth c A) (hK : va_K (dC, dI) vwCl (tysG cB cI cJ cZ) s)  : g_X5_throwsIf_0 p l e s m args below meth c A dC dI cB cI cJ cZ a_this a_times a_bits a_colours a_cube a_laid a_takes a_choice a_isChosen a_column a_next a_barredAt a_ways a_own a_goes a_rowGoes a_mark a_count a_colour v_columns v_needed v_rows v_cubes v_placements v_taken v_chosen v_nodes v_found v_isSpent v_told v_kept v_turns v_toldNodes out (f_X5_throwsIf  ) := by
  obtain ⟨hx, hb, hr, hml, hown, hts, hlocks, hA⟩ := id C0
  intro v_thrown x1 x2 hf H locs hP hD hS ls hl
  replace hf : ((if x2 = 0 then
  (f_X5_throwsIf_10 v_thrown x2 (0 : Int32))
  else
  (f_X5_throwsIf_10 v_thrown x2 x1)) : Option (Int32 × Int32)) = some out := hf
  refine lv_aload_n hx hb dX5_throwsIf_0 rfl (lv_at hl 0 rfl) ?_
  refine lv_iload_n hx hb dX5_throwsIf_1 rfl (lv_at hl 2 rfl) ?_
  refine lv_if_eq (tgt := 9) hx hb dX5_throwsIf_2 (by decide) (fun c_2 => ?_) (fun c_2 => ?_)
  · replace hf := (if_pos c_2).symm.trans hf
    refine lv_iconst (v := 0) hx hb dX5_throwsIf_9 (by decide) ?_
    exact w_X5_throwsIf_10 C0 hK v_thrown x2 (0 : Int32) hf _ _ hP hD hS ls (lv_sub hl [2] rfl)
  · replace hf := (if_neg c_2).symm.trans hf
    refine lv_iload_n hx hb dX5_throwsIf_5 rfl (lv_at hl 1 rfl) ?_
    refine lv_goto (tgt := 10) hx hb dX5_throwsIf_6 (by decide) ?_
    exact w_X5_throwsIf_10 C0 hK v_thrown x2 x1 hf _ _ hP hD hS ls (lv_sub hl [2] rfl)
theorem nd_X5_throwsIf : yX5_throwsIf.cls ≠ "java/lang/invoke/MethodHandle" ∧ yX5_throwsIf.cls ≠ "java/lang/invoke/VarHandle" ∧ (parseMethodDescriptor yX5_throwsIf.desc).map (fun d => d.parameters.length) = some 2 := by decide +kernel
set_option maxHeartbeats 4000000 in
set_option maxRecDepth 100000 in
theorem c_X5_throwsIf (l : Launch) (dC : Nat → ClassId) (dI : Nat → Nat → Nat) (cB cI cJ cZ : ClassId) (a_this a_times a_bits a_colours a_cube a_laid a_takes a_choice a_isChosen a_column a_next a_barredAt a_ways a_own a_goes a_rowGoes a_mark a_count a_colour : Nat) (sz : Nat) (v_thrown : Int32) (v_columns : Int32) (v_needed : Int32) (v_rows : Int32) (v_cubes : Int32) (v_placements : Int32) (v_taken : Int32) (v_chosen : Int32) (v_nodes : Int32) (v_found : Int32) (v_isSpent : Int32) (v_told : Int32) (v_kept : Int32) (v_turns : Int32) (v_toldNodes : Int32) (x1 : Int32) (x2 : Int32) (out : Int32 × Int32) (hf : f_X5_throwsIf  v_thrown x1 x2 = some out) : Met l yX5_throwsIf wsX5_throwsIf rm_X5_throwsIf (va_Pc [.ref a_this, .int x1, .int x2] (fun U => U.heap.size = sz ∧ va_P (dC, dI) vwCl (ws_X5_throwsIf cB cI cJ cZ a_this a_times a_bits a_colours a_cube a_laid a_takes a_choice a_isChosen a_column a_next a_barredAt a_ways a_own a_goes a_rowGoes a_mark a_count a_colour v_thrown v_columns v_needed v_rows v_cubes v_placements v_taken v_chosen v_nodes v_found v_isSpent v_told v_kept v_turns v_toldNodes) U.heap ∧ va_K (dC, dI) vwCl (tysG cB cI cJ cZ) U ∧ va_D (fun _ => True) (ws_X5_throwsIf cB cI cJ cZ a_this a_times a_bits a_colours a_cube a_laid a_takes a_choice a_isChosen a_column a_next a_barredAt a_ways a_own a_goes a_rowGoes a_mark a_count a_colour v_thrown v_columns v_needed v_rows v_cubes v_placements v_taken v_chosen v_nodes v_found v_isSpent v_told v_kept v_turns v_toldNodes))) (qc_X5_throwsIf (va_A (ws_X5_throwsIf cB cI cJ cZ a_this a_times a_bits a_colours a_cube a_laid a_takes a_choice a_isChosen a_column a_next a_barredAt a_ways a_own a_goes a_rowGoes a_mark a_count a_colour v_thrown v_columns v_needed v_rows v_cubes v_placements v_taken v_chosen v_nodes v_found v_isSpent v_told v_kept v_turns v_toldNodes) sz) dC dI cB cI cJ cZ a_this a_times a_bits a_colours a_cube a_laid a_takes a_choice a_isChosen a_column a_next a_barredAt a_ways a_own a_goes a_rowGoes a_mark a_count a_colour v_columns v_needed v_rows v_cubes v_placements v_taken v_chosen v_nodes v_found v_isSpent v_told v_kept v_turns v_toldNodes out) 0 0 (va_A (ws_X5_throwsIf cB cI cJ cZ a_this a_times a_bits a_colours a_cube a_laid a_takes a_choice a_isChosen a_column a_next a_barredAt a_ways a_own a_goes a_rowGoes a_mark a_count a_colour v_thrown v_columns v_needed v_rows v_cubes v_placements v_taken v_chosen v_nodes v_found v_isSpent v_told v_kept v_turns v_toldNodes) sz) := by
  refine Met.ofW (cc := cX5_throwsIf) (maxL := 3) (ret := (some .boolean)) (by decide) rfl ?_
  intro p e s m args below meth c s₁ B hml hv
  obtain ⟨rfl, hsz, hP, hK, hD0⟩ := hv
  subst hsz
  have hD := hD0.self (sz := s.heap.size)
  generalize hAe : va_A (ws_X5_throwsIf cB cI cJ cZ a_this a_times a_bits a_colours a_cube a_laid a_takes a_choice a_isChosen a_column a_next a_barredAt a_ways a_own a_goes a_rowGoes a_mark a_count a_colour v_thrown v_columns v_needed v_rows v_cubes v_placements v_taken v_chosen v_nodes v_found v_isSpent v_told v_kept v_turns v_toldNodes) s.heap.size = A at hD ⊢
  have hA : ∀ q : Nat, s.heap.size ≤ q → A q := fun q h => by rw [← hAe]; exact Or.inr h
  have hl := lv_entry ([.ref a_this, .int x1, .int x2]) (n := 3) (Nat.le_of_ble_eq_true rfl)
  rw [lg_entry_eq]
  generalize (lg_sl ([.ref a_this, .int x1, .int x2]) ++ List.replicate (3 - (lg_sl ([.ref a_this, .int x1, .int x2])).length) Slot.unset).toArray = ls at hl ⊢
  have hl : lv_has ls 3 [(0, .ref a_this), (1, .int x1), (2, .int x2)] := hl
  exact w_X5_throwsIf_0 ⟨B.exec, B.bytes, B.returns, hml, findClass_of_methodNamed B.named, atoms_spec (ws := wsX5_throwsIf) B.pre, B.notSynchronized, hA⟩ hK v_thrown x1 x2 hf _ _ hP hD va_S.rf ls (lv_sub hl [0, 1, 2] rfl)
-- X5.isColumn(I)Z: 10 instructions
theorem in_X5_isColumn_X5 : ∀ w ∈ wsX50, w ∈ wsX5_isColumn := by decide +kernel
abbrev ws_X5_isColumn (cB cI cJ cZ : ClassId) (a_this a_times a_bits a_colours a_cube a_laid a_takes a_choice a_isChosen a_column a_next a_barredAt a_ways a_own a_goes a_rowGoes a_mark a_count a_colour : Nat) (v_thrown : Int32) (v_columns : Int32) (v_needed : Int32) (v_rows : Int32) (v_cubes : Int32) (v_placements : Int32) (v_taken : Int32) (v_chosen : Int32) (v_nodes : Int32) (v_found : Int32) (v_isSpent : Int32) (v_told : Int32) (v_kept : Int32) (v_turns : Int32) (v_toldNodes : Int32) : va_W := [(a_this, .inr (6, [.int v_thrown, .int v_columns, .int v_needed, .ref a_times, .int v_rows, .ref a_bits, .ref a_colours, .int v_cubes, .ref a_cube, .ref a_laid, .int v_placements, .int v_taken, .ref a_takes, .int v_chosen, .ref a_choice, .ref a_isChosen, .ref a_column, .ref a_next, .ref a_barredAt, .int v_nodes, .int v_found, .int v_isSpent, .int v_told, .int v_kept, .ref a_ways, .ref a_own, .int v_turns, .ref a_goes, .ref a_rowGoes, .ref a_mark, .ref a_count, .ref a_colour, .int v_toldNodes]))]
abbrev rm_X5_isColumn : Room := { frames := 0, cells := 0, slots := 0, locals := 0 }
theorem lk_X5_isColumn_f66 : Cond.fieldLink RX5 66 "LinkedCoversModel" "columns" "I" ∈ wsX5_isColumn := by decide +kernel
def f_X5_isColumn_17 (v_columns : Int32)  (y0 : Int32) : Option (Int32 × Unit) :=
  if ¬ (y0 = 0 ∨ y0 = 1) then none else
  some ((y0, ()))
def f_X5_isColumn_16 (v_columns : Int32)   : Option (Int32 × Unit) :=
  f_X5_isColumn_17 v_columns (0 : Int32)
def f_X5_isColumn (v_columns : Int32)  (x1 : Int32) : Option (Int32 × Unit) :=
  if x1 < 0 then
  (f_X5_isColumn_16 v_columns )
  else
  (if v_columns ≤ x1 then
  (f_X5_isColumn_16 v_columns )
  else
  (f_X5_isColumn_17 v_columns (1 : Int32)))
abbrev qc_X5_isColumn (A : Nat → Prop) (dC : Nat → ClassId) (dI : Nat → Nat → Nat) (cB cI cJ cZ : ClassId) (a_this a_times a_bits a_colours a_cube a_laid a_takes a_choice a_isChosen a_column a_next a_barredAt a_ways a_own a_goes a_rowGoes a_mark a_count a_colour : Nat) (v_thrown : Int32) (v_columns : Int32) (v_needed : Int32) (v_rows : Int32) (v_cubes : Int32) (v_placements : Int32) (v_taken : Int32) (v_chosen : Int32) (v_nodes : Int32) (v_found : Int32) (v_isSpent : Int32) (v_told : Int32) (v_kept : Int32) (v_turns : Int32) (v_toldNodes : Int32) (out : Int32 × Unit) : Array Value → State → Outcome → State → Prop := va_Qi (fun (r : Int32) (u : Unit) => r = out.1 ∧ u = out.2) (fun (u : Unit) (t : State) => va_P (dC, dI) vwCl (ws_X5_isColumn cB cI cJ cZ a_this a_times a_bits a_colours a_cube a_laid a_takes a_choice a_isChosen a_column a_next a_barredAt a_ways a_own a_goes a_rowGoes a_mark a_count a_colour v_thrown v_columns v_needed v_rows v_cubes v_placements v_taken v_chosen v_nodes v_found v_isSpent v_told v_kept v_turns v_toldNodes) t.heap ∧ va_K (dC, dI) vwCl (tysG cB cI cJ cZ) t ∧ va_D A (ws_X5_isColumn cB cI cJ cZ a_this a_times a_bits a_colours a_cube a_laid a_takes a_choice a_isChosen a_column a_next a_barredAt a_ways a_own a_goes a_rowGoes a_mark a_count a_colour v_thrown v_columns v_needed v_rows v_cubes v_placements v_taken v_chosen v_nodes v_found v_isSpent v_told v_kept v_turns v_toldNodes)) A
abbrev g_X5_isColumn_17 (p : Program) (l : Launch) (e : Env) (s : State) (m : MethodId) (args : Array Value) (below : List Frame) (meth : Method) (c : Code) (A : Nat → Prop) (dC : Nat → ClassId) (dI : Nat → Nat → Nat) (cB cI cJ cZ : ClassId) (a_this a_times a_bits a_colours a_cube a_laid a_takes a_choice a_isChosen a_column a_next a_barredAt a_ways a_own a_goes a_rowGoes a_mark a_count a_colour : Nat) (v_thrown : Int32) (v_columns : Int32) (v_needed : Int32) (v_rows : Int32) (v_cubes : Int32) (v_placements : Int32) (v_taken : Int32) (v_chosen : Int32) (v_nodes : Int32) (v_found : Int32) (v_isSpent : Int32) (v_told : Int32) (v_kept : Int32) (v_turns : Int32) (v_toldNodes : Int32) (out : Int32 × Unit) (k : Int32 → Option (Int32 × Unit)) : Prop := ∀ (y0 : Int32), k y0 = some out → ∀ (H : Heap) (locs : List Loc), va_P (dC, dI) vwCl (ws_X5_isColumn cB cI cJ cZ a_this a_times a_bits a_colours a_cube a_laid a_takes a_choice a_isChosen a_column a_next a_barredAt a_ways a_own a_goes a_rowGoes a_mark a_count a_colour v_thrown v_columns v_needed v_rows v_cubes v_placements v_taken v_chosen v_nodes v_found v_isSpent v_told v_kept v_turns v_toldNodes) H → va_D A (ws_X5_isColumn cB cI cJ cZ a_this a_times a_bits a_colours a_cube a_laid a_takes a_choice a_isChosen a_column a_next a_barredAt a_ways a_own a_goes a_rowGoes a_mark a_count a_colour v_thrown v_columns v_needed v_rows v_cubes v_placements v_taken v_chosen v_nodes v_found v_isSpent v_told v_kept v_turns v_toldNodes) → va_S A s.heap H locs → ∀ (ls : Array Slot), lv_has ls 2 [] → W p l e (headSpec wsX5_isColumn rm_X5_isColumn).room s m args below meth c H locs 0 0 (MQ below (qc_X5_isColumn A dC dI cB cI cJ cZ a_this a_times a_bits a_colours a_cube a_laid a_takes a_choice a_isChosen a_column a_next a_barredAt a_ways a_own a_goes a_rowGoes a_mark a_count a_colour v_thrown v_columns v_needed v_rows v_cubes v_placements v_taken v_chosen v_nodes v_found v_isSpent v_told v_kept v_turns v_toldNodes out) args s 0 0 A) (F0 m 17 ls [.int y0])
abbrev g_X5_isColumn_16 (p : Program) (l : Launch) (e : Env) (s : State) (m : MethodId) (args : Array Value) (below : List Frame) (meth : Method) (c : Code) (A : Nat → Prop) (dC : Nat → ClassId) (dI : Nat → Nat → Nat) (cB cI cJ cZ : ClassId) (a_this a_times a_bits a_colours a_cube a_laid a_takes a_choice a_isChosen a_column a_next a_barredAt a_ways a_own a_goes a_rowGoes a_mark a_count a_colour : Nat) (v_thrown : Int32) (v_columns : Int32) (v_needed : Int32) (v_rows : Int32) (v_cubes : Int32) (v_placements : Int32) (v_taken : Int32) (v_chosen : Int32) (v_nodes : Int32) (v_found : Int32) (v_isSpent : Int32) (v_told : Int32) (v_kept : Int32) (v_turns : Int32) (v_toldNodes : Int32) (out : Int32 × Unit) (k : Option (Int32 × Unit)) : Prop := ∀ (_ : Unit), k = some out → ∀ (H : Heap) (locs : List Loc), va_P (dC, dI) vwCl (ws_X5_isColumn cB cI cJ cZ a_this a_times a_bits a_colours a_cube a_laid a_takes a_choice a_isChosen a_column a_next a_barredAt a_ways a_own a_goes a_rowGoes a_mark a_count a_colour v_thrown v_columns v_needed v_rows v_cubes v_placements v_taken v_chosen v_nodes v_found v_isSpent v_told v_kept v_turns v_toldNodes) H → va_D A (ws_X5_isColumn cB cI cJ cZ a_this a_times a_bits a_colours a_cube a_laid a_takes a_choice a_isChosen a_column a_next a_barredAt a_ways a_own a_goes a_rowGoes a_mark a_count a_colour v_thrown v_columns v_needed v_rows v_cubes v_placements v_taken v_chosen v_nodes v_found v_isSpent v_told v_kept v_turns v_toldNodes) → va_S A s.heap H locs → ∀ (ls : Array Slot), lv_has ls 2 [] → W p l e (headSpec wsX5_isColumn rm_X5_isColumn).room s m args below meth c H locs 0 0 (MQ below (qc_X5_isColumn A dC dI cB cI cJ cZ a_this a_times a_bits a_colours a_cube a_laid a_takes a_choice a_isChosen a_column a_next a_barredAt a_ways a_own a_goes a_rowGoes a_mark a_count a_colour v_thrown v_columns v_needed v_rows v_cubes v_placements v_taken v_chosen v_nodes v_found v_isSpent v_told v_kept v_turns v_toldNodes out) args s 0 0 A) (F0 m 16 ls [])
abbrev g_X5_isColumn_0 (p : Program) (l : Launch) (e : Env) (s : State) (m : MethodId) (args : Array Value) (below : List Frame) (meth : Method) (c : Code) (A : Nat → Prop) (dC : Nat → ClassId) (dI : Nat → Nat → Nat) (cB cI cJ cZ : ClassId) (a_this a_times a_bits a_colours a_cube a_laid a_takes a_choice a_isChosen a_column a_next a_barredAt a_ways a_own a_goes a_rowGoes a_mark a_count a_colour : Nat) (v_thrown : Int32) (v_columns : Int32) (v_needed : Int32) (v_rows : Int32) (v_cubes : Int32) (v_placements : Int32) (v_taken : Int32) (v_chosen : Int32) (v_nodes : Int32) (v_found : Int32) (v_isSpent : Int32) (v_told : Int32) (v_kept : Int32) (v_turns : Int32) (v_toldNodes : Int32) (out : Int32 × Unit) (k : Int32 → Option (Int32 × Unit)) : Prop := ∀ (x1 : Int32), k x1 = some out → ∀ (H : Heap) (locs : List Loc), va_P (dC, dI) vwCl (ws_X5_isColumn cB cI cJ cZ a_this a_times a_bits a_colours a_cube a_laid a_takes a_choice a_isChosen a_column a_next a_barredAt a_ways a_own a_goes a_rowGoes a_mark a_count a_colour v_thrown v_columns v_needed v_rows v_cubes v_placements v_taken v_chosen v_nodes v_found v_isSpent v_told v_kept v_turns v_toldNodes) H → va_D A (ws_X5_isColumn cB cI cJ cZ a_this a_times a_bits a_colours a_cube a_laid a_takes a_choice a_isChosen a_column a_next a_barredAt a_ways a_own a_goes a_rowGoes a_mark a_count a_colour v_thrown v_columns v_needed v_rows v_cubes v_placements v_taken v_chosen v_nodes v_found v_isSpent v_told v_kept v_turns v_toldNodes) → va_S A s.heap H locs → ∀ (ls : Array Slot), lv_has ls 2 [(0, .ref a_this), (1, .int x1)] → W p l e (headSpec wsX5_isColumn rm_X5_isColumn).room s m args below meth c H locs 0 0 (MQ below (qc_X5_isColumn A dC dI cB cI cJ cZ a_this a_times a_bits a_colours a_cube a_laid a_takes a_choice a_isChosen a_column a_next a_barredAt a_ways a_own a_goes a_rowGoes a_mark a_count a_colour v_thrown v_columns v_needed v_rows v_cubes v_placements v_taken v_chosen v_nodes v_found v_isSpent v_told v_kept v_turns v_toldNodes out) args s 0 0 A) (F0 m 0 ls [])
set_option maxHeartbeats 4000000 in
set_option maxRecDepth 100000 in
theorem w_X5_isColumn_17 {p : Program} {l : Launch} {e : Env} {s : State} {m : MethodId} {args : Array Value} {below : List Frame} {meth : Method} {c : Code} {A : Nat → Prop} {dC : Nat → ClassId} {dI : Nat → Nat → Nat} {cB cI cJ cZ : ClassId} {a_this a_times a_bits a_colours a_cube a_laid a_takes a_choice a_isChosen a_column a_next a_barredAt a_ways a_own a_goes a_rowGoes a_mark a_count a_colour : Nat} {v_thrown : Int32} {v_columns : Int32} {v_needed : Int32} {v_rows : Int32} {v_cubes : Int32} {v_placements : Int32} {v_taken : Int32} {v_chosen : Int32} {v_nodes : Int32} {v_found : Int32} {v_isSpent : Int32} {v_told : Int32} {v_kept : Int32} {v_turns : Int32} {v_toldNodes : Int32} {out : Int32 × Unit} (C0 : Cx RX5 cX5_isColumn (some .boolean) 2 wsX5_isColumn p s m args meth c A) (hK : va_K (dC, dI) vwCl (tysG cB cI cJ cZ) s)  : g_X5_isColumn_17 p l e s m args below meth c A dC dI cB cI cJ cZ a_this a_times a_bits a_colours a_cube a_laid a_takes a_choice a_isChosen a_column a_next a_barredAt a_ways a_own a_goes a_rowGoes a_mark a_count a_colour v_thrown v_columns v_needed v_rows v_cubes v_placements v_taken v_chosen v_nodes v_found v_isSpent v_told v_kept v_turns v_toldNodes out (f_X5_isColumn_17 v_columns ) := by
  obtain ⟨hx, hb, hr, hml, hown, hts, hlocks, hA⟩ := id C0
  intro y0 hf H locs hP hD hS ls hl
  replace hf : ((if ¬ (y0 = 0 ∨ y0 = 1) then none else
  some ((y0, ()))) : Option (Int32 × Unit)) = some out := hf
  obtain ⟨h_1, hf⟩ := gd_ck hf
  have h9 := Option.some.inj hf
  have h8 := congrArg Prod.fst h9
  have h7 := congrArg Prod.snd h9
  exact W.zret (v := y0) hx hb hr (gd_z h_1) (fun t ht hW => ⟨⟨y0, (), rfl, ⟨h8, h7⟩, by rw [ht]; exact hP, va_K.moved hW.alike hK, hD⟩, hS.F ht⟩) hS.2.2 dX5_isColumn_17
set_option maxHeartbeats 4000000 in
set_option maxRecDepth 100000 in
theorem w_X5_isColumn_16 {p : Program} {l : Launch} {e : Env} {s : State} {m : MethodId} {args : Array Value} {below : List Frame} {meth : Method} {c : Code} {A : Nat → Prop} {dC : Nat → ClassId} {dI : Nat → Nat → Nat} {cB cI cJ cZ : ClassId} {a_this a_times a_bits a_colours a_cube a_laid a_takes a_choice a_isChosen a_column a_next a_barredAt a_ways a_own a_goes a_rowGoes a_mark a_count a_colour : Nat} {v_thrown : Int32} {v_columns : Int32} {v_needed : Int32} {v_rows : Int32} {v_cubes : Int32} {v_placements : Int32} {v_taken : Int32} {v_chosen : Int32} {v_nodes : Int32} {v_found : Int32} {v_isSpent : Int32} {v_told : Int32} {v_kept : Int32} {v_turns : Int32} {v_toldNodes : Int32} {out : Int32 × Unit} (C0 : Cx RX5 cX5_isColumn (some .boolean) 2 wsX5_isColumn p s m args meth c A) (hK : va_K (dC, dI) vwCl (tysG cB cI cJ cZ) s)  : g_X5_isColumn_16 p l e s m args below meth c A dC dI cB cI cJ cZ a_this a_times a_bits a_colours a_cube a_laid a_takes a_choice a_isChosen a_column a_next a_barredAt a_ways a_own a_goes a_rowGoes a_mark a_count a_colour v_thrown v_columns v_needed v_rows v_cubes v_placements v_taken v_chosen v_nodes v_found v_isSpent v_told v_kept v_turns v_toldNodes out (f_X5_isColumn_16 v_columns ) := by
  obtain ⟨hx, hb, hr, hml, hown, hts, hlocks, hA⟩ := id C0
  intro _ hf H locs hP hD hS ls hl
  replace hf : ((f_X5_isColumn_17 v_columns (0 : Int32)) : Option (Int32 × Unit)) = some out := hf
  refine lv_iconst (v := 0) hx hb dX5_isColumn_16 (by decide) ?_
  exact w_X5_isColumn_17 C0 hK (0 : Int32) hf _ _ hP hD hS ls (lv_sub hl [] rfl)
set_option maxHeartbeats 4000000 in
set_option maxRecDepth 100000 in
theorem w_X5_isColumn_0 {p : Program} {l : Launch} {e : Env} {s : State} {m : MethodId} {args : Array Value} {below : List Frame} {meth : Method} {c : Code} {A : Nat → Prop} {dC : Nat → ClassId} {dI : Nat → Nat → Nat} {cB cI cJ cZ : ClassId} {a_this a_times a_bits a_colours a_cube a_laid a_takes a_choice a_isChosen a_column a_next a_barredAt a_ways a_own a_goes a_rowGoes a_mark a_count a_colour : Nat} {v_thrown : Int32} {v_columns : Int32} {v_needed : Int32} {v_rows : Int32} {v_cubes : Int32} {v_placements : Int32} {v_taken : Int32} {v_chosen : Int32} {v_nodes : Int32} {v_found : Int32} {v_isSpent : Int32} {v_told : Int32} {v_kept : Int32} {v_turns : Int32} {v_toldNodes : Int32} {out : Int32 × Unit} (C0 : Cx RX5 cX5_isColumn (some .boolean) 2 wsX5_isColumn p s m args meth c A) (hK : va_K (dC, dI) vwCl (tysG cB cI cJ cZ) s)  : g_X5_isColumn_0 p l e s m args below meth c A dC dI cB cI cJ cZ a_this a_times a_bits a_colours a_cube a_laid a_takes a_choice a_isChosen a_column a_next a_barredAt a_ways a_own a_goes a_rowGoes a_mark a_count a_colour v_thrown v_columns v_needed v_rows v_cubes v_placements v_taken v_chosen v_nodes v_found v_isSpent v_told v_kept v_turns v_toldNodes out (f_X5_isColumn v_columns ) := by
  obtain ⟨hx, hb, hr, hml, hown, hts, hlocks, hA⟩ := id C0
  intro x1 hf H locs hP hD hS ls hl
  replace hf : ((if x1 < 0 then
  (f_X5_isColumn_16 v_columns )
  else
  (if v_columns ≤ x1 then
  (f_X5_isColumn_16 v_columns )
  else
  (f_X5_isColumn_17 v_columns (1 : Int32)))) : Option (Int32 × Unit)) = some out := hf
  refine lv_iload_n hx hb dX5_isColumn_0 rfl (lv_at hl 1 rfl) ?_
  refine lv_if_lt (tgt := 16) hx hb dX5_isColumn_1 (by decide) (fun c_2 => ?_) (fun c_2 => ?_)
  · replace hf := (if_pos c_2).symm.trans hf
    exact w_X5_isColumn_16 C0 hK () hf _ _ hP hD hS ls (lv_sub hl [] rfl)
  · replace hf := (if_neg c_2).symm.trans hf
    refine lv_iload_n hx hb dX5_isColumn_4 rfl (lv_at hl 1 rfl) ?_
    refine lv_aload_n hx hb dX5_isColumn_5 rfl (lv_at hl 0 rfl) ?_
    refine va_get (D := (dC, dI)) (ci := 6) (v := .int v_columns) (C := RX5) (T := TX5) (N := 33) hx hb hts in_X5_isColumn_X5 hown hK hP 0 rfl rfl 1 (by decide) (hts (.fieldLink RX5 66 "LinkedCoversModel" "columns" "I") lk_X5_isColumn_f66) (fun _ h9 => h9) rfl dX5_isColumn_6 ?_
    refine lv_icmp_ge (tgt := 16) hx hb dX5_isColumn_9 (by decide) (fun c_3 => ?_) (fun c_3 => ?_)
    · replace hf := (if_pos c_3).symm.trans hf
      exact w_X5_isColumn_16 C0 hK () hf _ _ hP hD hS ls (lv_sub hl [] rfl)
    · replace hf := (if_neg c_3).symm.trans hf
      refine lv_iconst (v := 1) hx hb dX5_isColumn_12 (by decide) ?_
      refine lv_goto (tgt := 17) hx hb dX5_isColumn_13 (by decide) ?_
      exact w_X5_isColumn_17 C0 hK (1 : Int32) hf _ _ hP hD hS ls (lv_sub hl [] rfl)
theorem nd_X5_isColumn : yX5_isColumn.cls ≠ "java/lang/invoke/MethodHandle" ∧ yX5_isColumn.cls ≠ "java/lang/invoke/VarHandle" ∧ (parseMethodDescriptor yX5_isColumn.desc).map (fun d => d.parameters.length) = some 1 := by decide +kernel
set_option maxHeartbeats 4000000 in
set_option maxRecDepth 100000 in
theorem c_X5_isColumn (l : Launch) (dC : Nat → ClassId) (dI : Nat → Nat → Nat) (cB cI cJ cZ : ClassId) (a_this a_times a_bits a_colours a_cube a_laid a_takes a_choice a_isChosen a_column a_next a_barredAt a_ways a_own a_goes a_rowGoes a_mark a_count a_colour : Nat) (sz : Nat) (v_thrown : Int32) (v_columns : Int32) (v_needed : Int32) (v_rows : Int32) (v_cubes : Int32) (v_placements : Int32) (v_taken : Int32) (v_chosen : Int32) (v_nodes : Int32) (v_found : Int32) (v_isSpent : Int32) (v_told : Int32) (v_kept : Int32) (v_turns : Int32) (v_toldNodes : Int32) (x1 : Int32) (out : Int32 × Unit) (hf : f_X5_isColumn v_columns x1 = some out) : Met l yX5_isColumn wsX5_isColumn rm_X5_isColumn (va_Pc [.ref a_this, .int x1] (fun U => U.heap.size = sz ∧ va_P (dC, dI) vwCl (ws_X5_isColumn cB cI cJ cZ a_this a_times a_bits a_colours a_cube a_laid a_takes a_choice a_isChosen a_column a_next a_barredAt a_ways a_own a_goes a_rowGoes a_mark a_count a_colour v_thrown v_columns v_needed v_rows v_cubes v_placements v_taken v_chosen v_nodes v_found v_isSpent v_told v_kept v_turns v_toldNodes) U.heap ∧ va_K (dC, dI) vwCl (tysG cB cI cJ cZ) U ∧ va_D (fun _ => True) (ws_X5_isColumn cB cI cJ cZ a_this a_times a_bits a_colours a_cube a_laid a_takes a_choice a_isChosen a_column a_next a_barredAt a_ways a_own a_goes a_rowGoes a_mark a_count a_colour v_thrown v_columns v_needed v_rows v_cubes v_placements v_taken v_chosen v_nodes v_found v_isSpent v_told v_kept v_turns v_toldNodes))) (qc_X5_isColumn (va_A (ws_X5_isColumn cB cI cJ cZ a_this a_times a_bits a_colours a_cube a_laid a_takes a_choice a_isChosen a_column a_next a_barredAt a_ways a_own a_goes a_rowGoes a_mark a_count a_colour v_thrown v_columns v_needed v_rows v_cubes v_placements v_taken v_chosen v_nodes v_found v_isSpent v_told v_kept v_turns v_toldNodes) sz) dC dI cB cI cJ cZ a_this a_times a_bits a_colours a_cube a_laid a_takes a_choice a_isChosen a_column a_next a_barredAt a_ways a_own a_goes a_rowGoes a_mark a_count a_colour v_thrown v_columns v_needed v_rows v_cubes v_placements v_taken v_chosen v_nodes v_found v_isSpent v_told v_kept v_turns v_toldNodes out) 0 0 (va_A (ws_X5_isColumn cB cI cJ cZ a_this a_times a_bits a_colours a_cube a_laid a_takes a_choice a_isChosen a_column a_next a_barredAt a_ways a_own a_goes a_rowGoes a_mark a_count a_colour v_thrown v_columns v_needed v_rows v_cubes v_placements v_taken v_chosen v_nodes v_found v_isSpent v_told v_kept v_turns v_toldNodes) sz) := by
  refine Met.ofW (cc := cX5_isColumn) (maxL := 2) (ret := (some .boolean)) (by decide) rfl ?_
  intro p e s m args below meth c s₁ B hml hv
  obtain ⟨rfl, hsz, hP, hK, hD0⟩ := hv
  subst hsz
  have hD := hD0.self (sz := s.heap.size)
  generalize hAe : va_A (ws_X5_isColumn cB cI cJ cZ a_this a_times a_bits a_colours a_cube a_laid a_takes a_choice a_isChosen a_column a_next a_barredAt a_ways a_own a_goes a_rowGoes a_mark a_count a_colour v_thrown v_columns v_needed v_rows v_cubes v_placements v_taken v_chosen v_nodes v_found v_isSpent v_told v_kept v_turns v_toldNodes) s.heap.size = A at hD ⊢
  have hA : ∀ q : Nat, s.heap.size ≤ q → A q := fun q h => by rw [← hAe]; exact Or.inr h
  have hl := lv_entry ([.ref a_this, .int x1]) (n := 2) (Nat.le_of_ble_eq_true rfl)
  rw [lg_entry_eq]
  generalize (lg_sl ([.ref a_this, .int x1]) ++ List.replicate (2 - (lg_sl ([.ref a_this, .int x1])).length) Slot.unset).toArray = ls at hl ⊢
  have hl : lv_has ls 2 [(0, .ref a_this), (1, .int x1)] := hl
  exact w_X5_isColumn_0 ⟨B.exec, B.bytes, B.returns, hml, findClass_of_methodNamed B.named, atoms_spec (ws := wsX5_isColumn) B.pre, B.notSynchronized, hA⟩ hK x1 hf _ _ hP hD va_S.rf ls (lv_sub hl [0, 1] rfl)
-- X5.isRow(I)Z: 10 instructions
theorem in_X5_isRow_X5 : ∀ w ∈ wsX50, w ∈ wsX5_isRow := by decide +kernel
abbrev ws_X5_isRow (cB cI cJ cZ : ClassId) (a_this a_times a_bits a_colours a_cube a_laid a_takes a_choice a_isChosen a_column a_next a_barredAt a_ways a_own a_goes a_rowGoes a_mark a_count a_colour : Nat) (v_thrown : Int32) (v_columns : Int32) (v_needed : Int32) (v_rows : Int32) (v_cubes : Int32) (v_placements : Int32) (v_taken : Int32) (v_chosen : Int32) (v_nodes : Int32) (v_found : Int32) (v_isSpent : Int32) (v_told : Int32) (v_kept : Int32) (v_turns : Int32) (v_toldNodes : Int32) : va_W := [(a_this, .inr (6, [.int v_thrown, .int v_columns, .int v_needed, .ref a_times, .int v_rows, .ref a_bits, .ref a_colours, .int v_cubes, .ref a_cube, .ref a_laid, .int v_placements, .int v_taken, .ref a_takes, .int v_chosen, .ref a_choice, .ref a_isChosen, .ref a_column, .ref a_next, .ref a_barredAt, .int v_nodes, .int v_found, .int v_isSpent, .int v_told, .int v_kept, .ref a_ways, .ref a_own, .int v_turns, .ref a_goes, .ref a_rowGoes, .ref a_mark, .ref a_count, .ref a_colour, .int v_toldNodes]))]
abbrev rm_X5_isRow : Room := { frames := 0, cells := 0, slots := 0, locals := 0 }
theorem lk_X5_isRow_f76 : Cond.fieldLink RX5 76 "LinkedCoversModel" "rows" "I" ∈ wsX5_isRow := by decide +kernel
def f_X5_isRow_17 (v_rows : Int32)  (y0 : Int32) : Option (Int32 × Unit) :=
  if ¬ (y0 = 0 ∨ y0 = 1) then none else
  some ((y0, ()))
def f_X5_isRow_16 (v_rows : Int32)   : Option (Int32 × Unit) :=
  f_X5_isRow_17 v_rows (0 : Int32)
def f_X5_isRow (v_rows : Int32)  (x1 : Int32) : Option (Int32 × Unit) :=
  if x1 < 0 then
  (f_X5_isRow_16 v_rows )
  else
  (if v_rows ≤ x1 then
  (f_X5_isRow_16 v_rows )
  else
  (f_X5_isRow_17 v_rows (1 : Int32)))
abbrev qc_X5_isRow (A : Nat → Prop) (dC : Nat → ClassId) (dI : Nat → Nat → Nat) (cB cI cJ cZ : ClassId) (a_this a_times a_bits a_colours a_cube a_laid a_takes a_choice a_isChosen a_column a_next a_barredAt a_ways a_own a_goes a_rowGoes a_mark a_count a_colour : Nat) (v_thrown : Int32) (v_columns : Int32) (v_needed : Int32) (v_rows : Int32) (v_cubes : Int32) (v_placements : Int32) (v_taken : Int32) (v_chosen : Int32) (v_nodes : Int32) (v_found : Int32) (v_isSpent : Int32) (v_told : Int32) (v_kept : Int32) (v_turns : Int32) (v_toldNodes : Int32) (out : Int32 × Unit) : Array Value → State → Outcome → State → Prop := va_Qi (fun (r : Int32) (u : Unit) => r = out.1 ∧ u = out.2) (fun (u : Unit) (t : State) => va_P (dC, dI) vwCl (ws_X5_isRow cB cI cJ cZ a_this a_times a_bits a_colours a_cube a_laid a_takes a_choice a_isChosen a_column a_next a_barredAt a_ways a_own a_goes a_rowGoes a_mark a_count a_colour v_thrown v_columns v_needed v_rows v_cubes v_placements v_taken v_chosen v_nodes v_found v_isSpent v_told v_kept v_turns v_toldNodes) t.heap ∧ va_K (dC, dI) vwCl (tysG cB cI cJ cZ) t ∧ va_D A (ws_X5_isRow cB cI cJ cZ a_this a_times a_bits a_colours a_cube a_laid a_takes a_choice a_isChosen a_column a_next a_barredAt a_ways a_own a_goes a_rowGoes a_mark a_count a_colour v_thrown v_columns v_needed v_rows v_cubes v_placements v_taken v_chosen v_nodes v_found v_isSpent v_told v_kept v_turns v_toldNodes)) A
abbrev g_X5_isRow_17 (p : Program) (l : Launch) (e : Env) (s : State) (m : MethodId) (args : Array Value) (below : List Frame) (meth : Method) (c : Code) (A : Nat → Prop) (dC : Nat → ClassId) (dI : Nat → Nat → Nat) (cB cI cJ cZ : ClassId) (a_this a_times a_bits a_colours a_cube a_laid a_takes a_choice a_isChosen a_column a_next a_barredAt a_ways a_own a_goes a_rowGoes a_mark a_count a_colour : Nat) (v_thrown : Int32) (v_columns : Int32) (v_needed : Int32) (v_rows : Int32) (v_cubes : Int32) (v_placements : Int32) (v_taken : Int32) (v_chosen : Int32) (v_nodes : Int32) (v_found : Int32) (v_isSpent : Int32) (v_told : Int32) (v_kept : Int32) (v_turns : Int32) (v_toldNodes : Int32) (out : Int32 × Unit) (k : Int32 → Option (Int32 × Unit)) : Prop := ∀ (y0 : Int32), k y0 = some out → ∀ (H : Heap) (locs : List Loc), va_P (dC, dI) vwCl (ws_X5_isRow cB cI cJ cZ a_this a_times a_bits a_colours a_cube a_laid a_takes a_choice a_isChosen a_column a_next a_barredAt a_ways a_own a_goes a_rowGoes a_mark a_count a_colour v_thrown v_columns v_needed v_rows v_cubes v_placements v_taken v_chosen v_nodes v_found v_isSpent v_told v_kept v_turns v_toldNodes) H → va_D A (ws_X5_isRow cB cI cJ cZ a_this a_times a_bits a_colours a_cube a_laid a_takes a_choice a_isChosen a_column a_next a_barredAt a_ways a_own a_goes a_rowGoes a_mark a_count a_colour v_thrown v_columns v_needed v_rows v_cubes v_placements v_taken v_chosen v_nodes v_found v_isSpent v_told v_kept v_turns v_toldNodes) → va_S A s.heap H locs → ∀ (ls : Array Slot), lv_has ls 2 [] → W p l e (headSpec wsX5_isRow rm_X5_isRow).room s m args below meth c H locs 0 0 (MQ below (qc_X5_isRow A dC dI cB cI cJ cZ a_this a_times a_bits a_colours a_cube a_laid a_takes a_choice a_isChosen a_column a_next a_barredAt a_ways a_own a_goes a_rowGoes a_mark a_count a_colour v_thrown v_columns v_needed v_rows v_cubes v_placements v_taken v_chosen v_nodes v_found v_isSpent v_told v_kept v_turns v_toldNodes out) args s 0 0 A) (F0 m 17 ls [.int y0])
abbrev g_X5_isRow_16 (p : Program) (l : Launch) (e : Env) (s : State) (m : MethodId) (args : Array Value) (below : List Frame) (meth : Method) (c : Code) (A : Nat → Prop) (dC : Nat → ClassId) (dI : Nat → Nat → Nat) (cB cI cJ cZ : ClassId) (a_this a_times a_bits a_colours a_cube a_laid a_takes a_choice a_isChosen a_column a_next a_barredAt a_ways a_own a_goes a_rowGoes a_mark a_count a_colour : Nat) (v_thrown : Int32) (v_columns : Int32) (v_needed : Int32) (v_rows : Int32) (v_cubes : Int32) (v_placements : Int32) (v_taken : Int32) (v_chosen : Int32) (v_nodes : Int32) (v_found : Int32) (v_isSpent : Int32) (v_told : Int32) (v_kept : Int32) (v_turns : Int32) (v_toldNodes : Int32) (out : Int32 × Unit) (k : Option (Int32 × Unit)) : Prop := ∀ (_ : Unit), k = some out → ∀ (H : Heap) (locs : List Loc), va_P (dC, dI) vwCl (ws_X5_isRow cB cI cJ cZ a_this a_times a_bits a_colours a_cube a_laid a_takes a_choice a_isChosen a_column a_next a_barredAt a_ways a_own a_goes a_rowGoes a_mark a_count a_colour v_thrown v_columns v_needed v_rows v_cubes v_placements v_taken v_chosen v_nodes v_found v_isSpent v_told v_kept v_turns v_toldNodes) H → va_D A (ws_X5_isRow cB cI cJ cZ a_this a_times a_bits a_colours a_cube a_laid a_takes a_choice a_isChosen a_column a_next a_barredAt a_ways a_own a_goes a_rowGoes a_mark a_count a_colour v_thrown v_columns v_needed v_rows v_cubes v_placements v_taken v_chosen v_nodes v_found v_isSpent v_told v_kept v_turns v_toldNodes) → va_S A s.heap H locs → ∀ (ls : Array Slot), lv_has ls 2 [] → W p l e (headSpec wsX5_isRow rm_X5_isRow).room s m args below meth c H locs 0 0 (MQ below (qc_X5_isRow A dC dI cB cI cJ cZ a_this a_times a_bits a_colours a_cube a_laid a_takes a_choice a_isChosen a_column a_next a_barredAt a_ways a_own a_goes a_rowGoes a_mark a_count a_colour v_thrown v_columns v_needed v_rows v_cubes v_placements v_taken v_chosen v_nodes v_found v_isSpent v_told v_kept v_turns v_toldNodes out) args s 0 0 A) (F0 m 16 ls [])
abbrev g_X5_isRow_0 (p : Program) (l : Launch) (e : Env) (s : State) (m : MethodId) (args : Array Value) (below : List Frame) (meth : Method) (c : Code) (A : Nat → Prop) (dC : Nat → ClassId) (dI : Nat → Nat → Nat) (cB cI cJ cZ : ClassId) (a_this a_times a_bits a_colours a_cube a_laid a_takes a_choice a_isChosen a_column a_next a_barredAt a_ways a_own a_goes a_rowGoes a_mark a_count a_colour : Nat) (v_thrown : Int32) (v_columns : Int32) (v_needed : Int32) (v_rows : Int32) (v_cubes : Int32) (v_placements : Int32) (v_taken : Int32) (v_chosen : Int32) (v_nodes : Int32) (v_found : Int32) (v_isSpent : Int32) (v_told : Int32) (v_kept : Int32) (v_turns : Int32) (v_toldNodes : Int32) (out : Int32 × Unit) (k : Int32 → Option (Int32 × Unit)) : Prop := ∀ (x1 : Int32), k x1 = some out → ∀ (H : Heap) (locs : List Loc), va_P (dC, dI) vwCl (ws_X5_isRow cB cI cJ cZ a_this a_times a_bits a_colours a_cube a_laid a_takes a_choice a_isChosen a_column a_next a_barredAt a_ways a_own a_goes a_rowGoes a_mark a_count a_colour v_thrown v_columns v_needed v_rows v_cubes v_placements v_taken v_chosen v_nodes v_found v_isSpent v_told v_kept v_turns v_toldNodes) H → va_D A (ws_X5_isRow cB cI cJ cZ a_this a_times a_bits a_colours a_cube a_laid a_takes a_choice a_isChosen a_column a_next a_barredAt a_ways a_own a_goes a_rowGoes a_mark a_count a_colour v_thrown v_columns v_needed v_rows v_cubes v_placements v_taken v_chosen v_nodes v_found v_isSpent v_told v_kept v_turns v_toldNodes) → va_S A s.heap H locs → ∀ (ls : Array Slot), lv_has ls 2 [(0, .ref a_this), (1, .int x1)] → W p l e (headSpec wsX5_isRow rm_X5_isRow).room s m args below meth c H locs 0 0 (MQ below (qc_X5_isRow A dC dI cB cI cJ cZ a_this a_times a_bits a_colours a_cube a_laid a_takes a_choice a_isChosen a_column a_next a_barredAt a_ways a_own a_goes a_rowGoes a_mark a_count a_colour v_thrown v_columns v_needed v_rows v_cubes v_placements v_taken v_chosen v_nodes v_found v_isSpent v_told v_kept v_turns v_toldNodes out) args s 0 0 A) (F0 m 0 ls [])
set_option maxHeartbeats 4000000 in
set_option maxRecDepth 100000 in
theorem w_X5_isRow_17 {p : Program} {l : Launch} {e : Env} {s : State} {m : MethodId} {args : Array Value} {below : List Frame} {meth : Method} {c : Code} {A : Nat → Prop} {dC : Nat → ClassId} {dI : Nat → Nat → Nat} {cB cI cJ cZ : ClassId} {a_this a_times a_bits a_colours a_cube a_laid a_takes a_choice a_isChosen a_column a_next a_barredAt a_ways a_own a_goes a_rowGoes a_mark a_count a_colour : Nat} {v_thrown : Int32} {v_columns : Int32} {v_needed : Int32} {v_rows : Int32} {v_cubes : Int32} {v_placements : Int32} {v_taken : Int32} {v_chosen : Int32} {v_nodes : Int32} {v_found : Int32} {v_isSpent : Int32} {v_told : Int32} {v_kept : Int32} {v_turns : Int32} {v_toldNodes : Int32} {out : Int32 × Unit} (C0 : Cx RX5 cX5_isRow (some .boolean) 2 wsX5_isRow p s m args meth c A) (hK : va_K (dC, dI) vwCl (tysG cB cI cJ cZ) s)  : g_X5_isRow_17 p l e s m args below meth c A dC dI cB cI cJ cZ a_this a_times a_bits a_colours a_cube a_laid a_takes a_choice a_isChosen a_column a_next a_barredAt a_ways a_own a_goes a_rowGoes a_mark a_count a_colour v_thrown v_columns v_needed v_rows v_cubes v_placements v_taken v_chosen v_nodes v_found v_isSpent v_told v_kept v_turns v_toldNodes out (f_X5_isRow_17 v_rows ) := by
  obtain ⟨hx, hb, hr, hml, hown, hts, hlocks, hA⟩ := id C0
  intro y0 hf H locs hP hD hS ls hl
  replace hf : ((if ¬ (y0 = 0 ∨ y0 = 1) then none else
  some ((y0, ()))) : Option (Int32 × Unit)) = some out := hf
  obtain ⟨h_1, hf⟩ := gd_ck hf
  have h9 := Option.some.inj hf
  have h8 := congrArg Prod.fst h9
  have h7 := congrArg Prod.snd h9
  exact W.zret (v := y0) hx hb hr (gd_z h_1) (fun t ht hW => ⟨⟨y0, (), rfl, ⟨h8, h7⟩, by rw [ht]; exact hP, va_K.moved hW.alike hK, hD⟩, hS.F ht⟩) hS.2.2 dX5_isRow_17
set_option maxHeartbeats 4000000 in
set_option maxRecDepth 100000 in
theorem w_X5_isRow_16 {p : Program} {l : Launch} {e : Env} {s : State} {m : MethodId} {args : Array Value} {below : List Frame} {meth : Method} {c : Code} {A : Nat → Prop} {dC : Nat → ClassId} {dI : Nat → Nat → Nat} {cB cI cJ cZ : ClassId} {a_this a_times a_bits a_colours a_cube a_laid a_takes a_choice a_isChosen a_column a_next a_barredAt a_ways a_own a_goes a_rowGoes a_mark a_count a_colour : Nat} {v_thrown : Int32} {v_columns : Int32} {v_needed : Int32} {v_rows : Int32} {v_cubes : Int32} {v_placements : Int32} {v_taken : Int32} {v_chosen : Int32} {v_nodes : Int32} {v_found : Int32} {v_isSpent : Int32} {v_told : Int32} {v_kept : Int32} {v_turns : Int32} {v_toldNodes : Int32} {out : Int32 × Unit} (C0 : Cx RX5 cX5_isRow (some .boolean) 2 wsX5_isRow p s m args meth c A) (hK : va_K (dC, dI) vwCl (tysG cB cI cJ cZ) s)  : g_X5_isRow_16 p l e s m args below meth c A dC dI cB cI cJ cZ a_this a_times a_bits a_colours a_cube a_laid a_takes a_choice a_isChosen a_column a_next a_barredAt a_ways a_own a_goes a_rowGoes a_mark a_count a_colour v_thrown v_columns v_needed v_rows v_cubes v_placements v_taken v_chosen v_nodes v_found v_isSpent v_told v_kept v_turns v_toldNodes out (f_X5_isRow_16 v_rows ) := by
  obtain ⟨hx, hb, hr, hml, hown, hts, hlocks, hA⟩ := id C0
  intro _ hf H locs hP hD hS ls hl
  replace hf : ((f_X5_isRow_17 v_rows (0 : Int32)) : Option (Int32 × Unit)) = some out := hf
  refine lv_iconst (v := 0) hx hb dX5_isRow_16 (by decide) ?_
  exact w_X5_isRow_17 C0 hK (0 : Int32) hf _ _ hP hD hS ls (lv_sub hl [] rfl)
set_option maxHeartbeats 4000000 in
set_option maxRecDepth 100000 in
theorem w_X5_isRow_0 {p : Program} {l : Launch} {e : Env} {s : State} {m : MethodId} {args : Array Value} {below : List Frame} {meth : Method} {c : Code} {A : Nat → Prop} {dC : Nat → ClassId} {dI : Nat → Nat → Nat} {cB cI cJ cZ : ClassId} {a_this a_times a_bits a_colours a_cube a_laid a_takes a_choice a_isChosen a_column a_next a_barredAt a_ways a_own a_goes a_rowGoes a_mark a_count a_colour : Nat} {v_thrown : Int32} {v_columns : Int32} {v_needed : Int32} {v_rows : Int32} {v_cubes : Int32} {v_placements : Int32} {v_taken : Int32} {v_chosen : Int32} {v_nodes : Int32} {v_found : Int32} {v_isSpent : Int32} {v_told : Int32} {v_kept : Int32} {v_turns : Int32} {v_toldNodes : Int32} {out : Int32 × Unit} (C0 : Cx RX5 cX5_isRow (some .boolean) 2 wsX5_isRow p s m args meth c A) (hK : va_K (dC, dI) vwCl (tysG cB cI cJ cZ) s)  : g_X5_isRow_0 p l e s m args below meth c A dC dI cB cI cJ cZ a_this a_times a_bits a_colours a_cube a_laid a_takes a_choice a_isChosen a_column a_next a_barredAt a_ways a_own a_goes a_rowGoes a_mark a_count a_colour v_thrown v_columns v_needed v_rows v_cubes v_placements v_taken v_chosen v_nodes v_found v_isSpent v_told v_kept v_turns v_toldNodes out (f_X5_isRow v_rows ) := by
  obtain ⟨hx, hb, hr, hml, hown, hts, hlocks, hA⟩ := id C0
  intro x1 hf H locs hP hD hS ls hl
  replace hf : ((if x1 < 0 then
  (f_X5_isRow_16 v_rows )
  else
  (if v_rows ≤ x1 then
  (f_X5_isRow_16 v_rows )
  else
  (f_X5_isRow_17 v_rows (1 : Int32)))) : Option (Int32 × Unit)) = some out := hf
  refine lv_iload_n hx hb dX5_isRow_0 rfl (lv_at hl 1 rfl) ?_
  refine lv_if_lt (tgt := 16) hx hb dX5_isRow_1 (by decide) (fun c_2 => ?_) (fun c_2 => ?_)
  · replace hf := (if_pos c_2).symm.trans hf
    exact w_X5_isRow_16 C0 hK () hf _ _ hP hD hS ls (lv_sub hl [] rfl)
  · replace hf := (if_neg c_2).symm.trans hf
    refine lv_iload_n hx hb dX5_isRow_4 rfl (lv_at hl 1 rfl) ?_
    refine lv_aload_n hx hb dX5_isRow_5 rfl (lv_at hl 0 rfl) ?_
    refine va_get (D := (dC, dI)) (ci := 6) (v := .int v_rows) (C := RX5) (T := TX5) (N := 33) hx hb hts in_X5_isRow_X5 hown hK hP 0 rfl rfl 4 (by decide) (hts (.fieldLink RX5 76 "LinkedCoversModel" "rows" "I") lk_X5_isRow_f76) (fun _ h9 => h9) rfl dX5_isRow_6 ?_
    refine lv_icmp_ge (tgt := 16) hx hb dX5_isRow_9 (by decide) (fun c_3 => ?_) (fun c_3 => ?_)
    · replace hf := (if_pos c_3).symm.trans hf
      exact w_X5_isRow_16 C0 hK () hf _ _ hP hD hS ls (lv_sub hl [] rfl)
    · replace hf := (if_neg c_3).symm.trans hf
      refine lv_iconst (v := 1) hx hb dX5_isRow_12 (by decide) ?_
      refine lv_goto (tgt := 17) hx hb dX5_isRow_13 (by decide) ?_
      exact w_X5_isRow_17 C0 hK (1 : Int32) hf _ _ hP hD hS ls (lv_sub hl [] rfl)
theorem nd_X5_isRow : yX5_isRow.cls ≠ "java/lang/invoke/MethodHandle" ∧ yX5_isRow.cls ≠ "java/lang/invoke/VarHandle" ∧ (parseMethodDescriptor yX5_isRow.desc).map (fun d => d.parameters.length) = some 1 := by decide +kernel
set_option maxHeartbeats 4000000 in
set_option maxRecDepth 100000 in
theorem c_X5_isRow (l : Launch) (dC : Nat → ClassId) (dI : Nat → Nat → Nat) (cB cI cJ cZ : ClassId) (a_this a_times a_bits a_colours a_cube a_laid a_takes a_choice a_isChosen a_column a_next a_barredAt a_ways a_own a_goes a_rowGoes a_mark a_count a_colour : Nat) (sz : Nat) (v_thrown : Int32) (v_columns : Int32) (v_needed : Int32) (v_rows : Int32) (v_cubes : Int32) (v_placements : Int32) (v_taken : Int32) (v_chosen : Int32) (v_nodes : Int32) (v_found : Int32) (v_isSpent : Int32) (v_told : Int32) (v_kept : Int32) (v_turns : Int32) (v_toldNodes : Int32) (x1 : Int32) (out : Int32 × Unit) (hf : f_X5_isRow v_rows x1 = some out) : Met l yX5_isRow wsX5_isRow rm_X5_isRow (va_Pc [.ref a_this, .int x1] (fun U => U.heap.size = sz ∧ va_P (dC, dI) vwCl (ws_X5_isRow cB cI cJ cZ a_this a_times a_bits a_colours a_cube a_laid a_takes a_choice a_isChosen a_column a_next a_barredAt a_ways a_own a_goes a_rowGoes a_mark a_count a_colour v_thrown v_columns v_needed v_rows v_cubes v_placements v_taken v_chosen v_nodes v_found v_isSpent v_told v_kept v_turns v_toldNodes) U.heap ∧ va_K (dC, dI) vwCl (tysG cB cI cJ cZ) U ∧ va_D (fun _ => True) (ws_X5_isRow cB cI cJ cZ a_this a_times a_bits a_colours a_cube a_laid a_takes a_choice a_isChosen a_column a_next a_barredAt a_ways a_own a_goes a_rowGoes a_mark a_count a_colour v_thrown v_columns v_needed v_rows v_cubes v_placements v_taken v_chosen v_nodes v_found v_isSpent v_told v_kept v_turns v_toldNodes))) (qc_X5_isRow (va_A (ws_X5_isRow cB cI cJ cZ a_this a_times a_bits a_colours a_cube a_laid a_takes a_choice a_isChosen a_column a_next a_barredAt a_ways a_own a_goes a_rowGoes a_mark a_count a_colour v_thrown v_columns v_needed v_rows v_cubes v_placements v_taken v_chosen v_nodes v_found v_isSpent v_told v_kept v_turns v_toldNodes) sz) dC dI cB cI cJ cZ a_this a_times a_bits a_colours a_cube a_laid a_takes a_choice a_isChosen a_column a_next a_barredAt a_ways a_own a_goes a_rowGoes a_mark a_count a_colour v_thrown v_columns v_needed v_rows v_cubes v_placements v_taken v_chosen v_nodes v_found v_isSpent v_told v_kept v_turns v_toldNodes out) 0 0 (va_A (ws_X5_isRow cB cI cJ cZ a_this a_times a_bits a_colours a_cube a_laid a_takes a_choice a_isChosen a_column a_next a_barredAt a_ways a_own a_goes a_rowGoes a_mark a_count a_colour v_thrown v_columns v_needed v_rows v_cubes v_placements v_taken v_chosen v_nodes v_found v_isSpent v_told v_kept v_turns v_toldNodes) sz) := by
  refine Met.ofW (cc := cX5_isRow) (maxL := 2) (ret := (some .boolean)) (by decide) rfl ?_
  intro p e s m args below meth c s₁ B hml hv
  obtain ⟨rfl, hsz, hP, hK, hD0⟩ := hv
  subst hsz
  have hD := hD0.self (sz := s.heap.size)
  generalize hAe : va_A (ws_X5_isRow cB cI cJ cZ a_this a_times a_bits a_colours a_cube a_laid a_takes a_choice a_isChosen a_column a_next a_barredAt a_ways a_own a_goes a_rowGoes a_mark a_count a_colour v_thrown v_columns v_needed v_rows v_cubes v_placements v_taken v_chosen v_nodes v_found v_isSpent v_told v_kept v_turns v_toldNodes) s.heap.size = A at hD ⊢
  have hA : ∀ q : Nat, s.heap.size ≤ q → A q := fun q h => by rw [← hAe]; exact Or.inr h
  have hl := lv_entry ([.ref a_this, .int x1]) (n := 2) (Nat.le_of_ble_eq_true rfl)
  rw [lg_entry_eq]
  generalize (lg_sl ([.ref a_this, .int x1]) ++ List.replicate (2 - (lg_sl ([.ref a_this, .int x1])).length) Slot.unset).toArray = ls at hl ⊢
  have hl : lv_has ls 2 [(0, .ref a_this), (1, .int x1)] := hl
  exact w_X5_isRow_0 ⟨B.exec, B.bytes, B.returns, hml, findClass_of_methodNamed B.named, atoms_spec (ws := wsX5_isRow) B.pre, B.notSynchronized, hA⟩ hK x1 hf _ _ hP hD va_S.rf ls (lv_sub hl [0, 1] rfl)
-- X5.has(II)Z: 14 instructions
theorem in_X5_has_X5 : ∀ w ∈ wsX50, w ∈ wsX5_has := by decide +kernel
abbrev ws_X5_has (cB cI cJ cZ : ClassId) (a_this a_bits a_times a_colours a_cube a_laid a_takes a_choice a_isChosen a_column a_next a_barredAt a_ways a_own a_goes a_rowGoes a_mark a_count a_colour : Nat) (v_thrown : Int32) (v_columns : Int32) (v_needed : Int32) (v_rows : Int32) (v_cubes : Int32) (v_placements : Int32) (v_taken : Int32) (v_chosen : Int32) (v_nodes : Int32) (v_found : Int32) (v_isSpent : Int32) (v_told : Int32) (v_kept : Int32) (v_turns : Int32) (v_toldNodes : Int32) (v_bits : (Nat → Int32)) : va_W := [(a_this, .inr (6, [.int v_thrown, .int v_columns, .int v_needed, .ref a_times, .int v_rows, .ref a_bits, .ref a_colours, .int v_cubes, .ref a_cube, .ref a_laid, .int v_placements, .int v_taken, .ref a_takes, .int v_chosen, .ref a_choice, .ref a_isChosen, .ref a_column, .ref a_next, .ref a_barredAt, .int v_nodes, .int v_found, .int v_isSpent, .int v_told, .int v_kept, .ref a_ways, .ref a_own, .int v_turns, .ref a_goes, .ref a_rowGoes, .ref a_mark, .ref a_count, .ref a_colour, .int v_toldNodes])), (a_bits, .inl (cI, 60, .inl v_bits))]
abbrev rm_X5_has : Room := { frames := 0, cells := 0, slots := 0, locals := 0 }
theorem lk_X5_has_f13 : Cond.fieldLink RX5 13 "LinkedCoversModel" "bits" "[I" ∈ wsX5_has := by decide +kernel
def f_X5_has_19 (v_bits : (Nat → Int32))  (y0 : Int32) : Option (Int32 × Unit) :=
  if ¬ (y0 = 0 ∨ y0 = 1) then none else
  some ((y0, ()))
def f_X5_has (v_bits : (Nat → Int32))  (x1 : Int32) (x2 : Int32) : Option (Int32 × Unit) :=
  if (x1 < 0 ∨ 60 ≤ Int32.toNatClampNeg x1) then none else
  if (((v_bits (Int32.toNatClampNeg x1)) >>> (x2 &&& 31)) &&& (1 : Int32)) = (1 : Int32) then
  (f_X5_has_19 v_bits (1 : Int32))
  else
  (f_X5_has_19 v_bits (0 : Int32))
abbrev qc_X5_has (A : Nat → Prop) (dC : Nat → ClassId) (dI : Nat → Nat → Nat) (cB cI cJ cZ : ClassId) (a_this a_bits a_times a_colours a_cube a_laid a_takes a_choice a_isChosen a_column a_next a_barredAt a_ways a_own a_goes a_rowGoes a_mark a_count a_colour : Nat) (v_thrown : Int32) (v_columns : Int32) (v_needed : Int32) (v_rows : Int32) (v_cubes : Int32) (v_placements : Int32) (v_taken : Int32) (v_chosen : Int32) (v_nodes : Int32) (v_found : Int32) (v_isSpent : Int32) (v_told : Int32) (v_kept : Int32) (v_turns : Int32) (v_toldNodes : Int32) (v_bits : (Nat → Int32)) (out : Int32 × Unit) : Array Value → State → Outcome → State → Prop := va_Qi (fun (r : Int32) (u : Unit) => r = out.1 ∧ u = out.2) (fun (u : Unit) (t : State) => va_P (dC, dI) vwCl (ws_X5_has cB cI cJ cZ a_this a_bits a_times a_colours a_cube a_laid a_takes a_choice a_isChosen a_column a_next a_barredAt a_ways a_own a_goes a_rowGoes a_mark a_count a_colour v_thrown v_columns v_needed v_rows v_cubes v_placements v_taken v_chosen v_nodes v_found v_isSpent v_told v_kept v_turns v_toldNodes v_bits) t.heap ∧ va_K (dC, dI) vwCl (tysG cB cI cJ cZ) t ∧ va_D A (ws_X5_has cB cI cJ cZ a_this a_bits a_times a_colours a_cube a_laid a_takes a_choice a_isChosen a_column a_next a_barredAt a_ways a_own a_goes a_rowGoes a_mark a_count a_colour v_thrown v_columns v_needed v_rows v_cubes v_placements v_taken v_chosen v_nodes v_found v_isSpent v_told v_kept v_turns v_toldNodes v_bits)) A
abbrev g_X5_has_19 (p : Program) (l : Launch) (e : Env) (s : State) (m : MethodId) (args : Array Value) (below : List Frame) (meth : Method) (c : Code) (A : Nat → Prop) (dC : Nat → ClassId) (dI : Nat → Nat → Nat) (cB cI cJ cZ : ClassId) (a_this a_bits a_times a_colours a_cube a_laid a_takes a_choice a_isChosen a_column a_next a_barredAt a_ways a_own a_goes a_rowGoes a_mark a_count a_colour : Nat) (v_thrown : Int32) (v_columns : Int32) (v_needed : Int32) (v_rows : Int32) (v_cubes : Int32) (v_placements : Int32) (v_taken : Int32) (v_chosen : Int32) (v_nodes : Int32) (v_found : Int32) (v_isSpent : Int32) (v_told : Int32) (v_kept : Int32) (v_turns : Int32) (v_toldNodes : Int32) (v_bits : (Nat → Int32)) (out : Int32 × Unit) (k : Int32 → Option (Int32 × Unit)) : Prop := ∀ (y0 : Int32), k y0 = some out → ∀ (H : Heap) (locs : List Loc), va_P (dC, dI) vwCl (ws_X5_has cB cI cJ cZ a_this a_bits a_times a_colours a_cube a_laid a_takes a_choice a_isChosen a_column a_next a_barredAt a_ways a_own a_goes a_rowGoes a_mark a_count a_colour v_thrown v_columns v_needed v_rows v_cubes v_placements v_taken v_chosen v_nodes v_found v_isSpent v_told v_kept v_turns v_toldNodes v_bits) H → va_D A (ws_X5_has cB cI cJ cZ a_this a_bits a_times a_colours a_cube a_laid a_takes a_choice a_isChosen a_column a_next a_barredAt a_ways a_own a_goes a_rowGoes a_mark a_count a_colour v_thrown v_columns v_needed v_rows v_cubes v_placements v_taken v_chosen v_nodes v_found v_isSpent v_told v_kept v_turns v_toldNodes v_bits) → va_S A s.heap H locs → ∀ (ls : Array Slot), lv_has ls 3 [] → W p l e (headSpec wsX5_has rm_X5_has).room s m args below meth c H locs 0 0 (MQ below (qc_X5_has A dC dI cB cI cJ cZ a_this a_bits a_times a_colours a_cube a_laid a_takes a_choice a_isChosen a_column a_next a_barredAt a_ways a_own a_goes a_rowGoes a_mark a_count a_colour v_thrown v_columns v_needed v_rows v_cubes v_placements v_taken v_chosen v_nodes v_found v_isSpent v_told v_kept v_turns v_toldNodes v_bits out) args s 0 0 A) (F0 m 19 ls [.int y0])
abbrev g_X5_has_0 (p : Program) (l : Launch) (e : Env) (s : State) (m : MethodId) (args : Array Value) (below : List Frame) (meth : Method) (c : Code) (A : Nat → Prop) (dC : Nat → ClassId) (dI : Nat → Nat → Nat) (cB cI cJ cZ : ClassId) (a_this a_bits a_times a_colours a_cube a_laid a_takes a_choice a_isChosen a_column a_next a_barredAt a_ways a_own a_goes a_rowGoes a_mark a_count a_colour : Nat) (v_thrown : Int32) (v_columns : Int32) (v_needed : Int32) (v_rows : Int32) (v_cubes : Int32) (v_placements : Int32) (v_taken : Int32) (v_chosen : Int32) (v_nodes : Int32) (v_found : Int32) (v_isSpent : Int32) (v_told : Int32) (v_kept : Int32) (v_turns : Int32) (v_toldNodes : Int32) (v_bits : (Nat → Int32)) (out : Int32 × Unit) (k : Int32 → Int32 → Option (Int32 × Unit)) : Prop := ∀ (x1 : Int32) (x2 : Int32), k x1 x2 = some out → ∀ (H : Heap) (locs : List Loc), va_P (dC, dI) vwCl (ws_X5_has cB cI cJ cZ a_this a_bits a_times a_colours a_cube a_laid a_takes a_choice a_isChosen a_column a_next a_barredAt a_ways a_own a_goes a_rowGoes a_mark a_count a_colour v_thrown v_columns v_needed v_rows v_cubes v_placements v_taken v_chosen v_nodes v_found v_isSpent v_told v_kept v_turns v_toldNodes v_bits) H → va_D A (ws_X5_has cB cI cJ cZ a_this a_bits a_times a_colours a_cube a_laid a_takes a_choice a_isChosen a_column a_next a_barredAt a_ways a_own a_goes a_rowGoes a_mark a_count a_colour v_thrown v_columns v_needed v_rows v_cubes v_placements v_taken v_chosen v_nodes v_found v_isSpent v_told v_kept v_turns v_toldNodes v_bits) → va_S A s.heap H locs → ∀ (ls : Array Slot), lv_has ls 3 [(0, .ref a_this), (1, .int x1), (2, .int x2)] → W p l e (headSpec wsX5_has rm_X5_has).room s m args below meth c H locs 0 0 (MQ below (qc_X5_has A dC dI cB cI cJ cZ a_this a_bits a_times a_colours a_cube a_laid a_takes a_choice a_isChosen a_column a_next a_barredAt a_ways a_own a_goes a_rowGoes a_mark a_count a_colour v_thrown v_columns v_needed v_rows v_cubes v_placements v_taken v_chosen v_nodes v_found v_isSpent v_told v_kept v_turns v_toldNodes v_bits out) args s 0 0 A) (F0 m 0 ls [])
set_option maxHeartbeats 4000000 in
set_option maxRecDepth 100000 in
theorem w_X5_has_19 {p : Program} {l : Launch} {e : Env} {s : State} {m : MethodId} {args : Array Value} {below : List Frame} {meth : Method} {c : Code} {A : Nat → Prop} {dC : Nat → ClassId} {dI : Nat → Nat → Nat} {cB cI cJ cZ : ClassId} {a_this a_bits a_times a_colours a_cube a_laid a_takes a_choice a_isChosen a_column a_next a_barredAt a_ways a_own a_goes a_rowGoes a_mark a_count a_colour : Nat} {v_thrown : Int32} {v_columns : Int32} {v_needed : Int32} {v_rows : Int32} {v_cubes : Int32} {v_placements : Int32} {v_taken : Int32} {v_chosen : Int32} {v_nodes : Int32} {v_found : Int32} {v_isSpent : Int32} {v_told : Int32} {v_kept : Int32} {v_turns : Int32} {v_toldNodes : Int32} {v_bits : (Nat → Int32)} {out : Int32 × Unit} (C0 : Cx RX5 cX5_has (some .boolean) 3 wsX5_has p s m args meth c A) (hK : va_K (dC, dI) vwCl (tysG cB cI cJ cZ) s)  : g_X5_has_19 p l e s m args below meth c A dC dI cB cI cJ cZ a_this a_bits a_times a_colours a_cube a_laid a_takes a_choice a_isChosen a_column a_next a_barredAt a_ways a_own a_goes a_rowGoes a_mark a_count a_colour v_thrown v_columns v_needed v_rows v_cubes v_placements v_taken v_chosen v_nodes v_found v_isSpent v_told v_kept v_turns v_toldNodes v_bits out (f_X5_has_19 v_bits ) := by
  obtain ⟨hx, hb, hr, hml, hown, hts, hlocks, hA⟩ := id C0
  intro y0 hf H locs hP hD hS ls hl
  replace hf : ((if ¬ (y0 = 0 ∨ y0 = 1) then none else
  some ((y0, ()))) : Option (Int32 × Unit)) = some out := hf
  obtain ⟨h_1, hf⟩ := gd_ck hf
  have h9 := Option.some.inj hf
  have h8 := congrArg Prod.fst h9
  have h7 := congrArg Prod.snd h9
  exact W.zret (v := y0) hx hb hr (gd_z h_1) (fun t ht hW => ⟨⟨y0, (), rfl, ⟨h8, h7⟩, by rw [ht]; exact hP, va_K.moved hW.alike hK, hD⟩, hS.F ht⟩) hS.2.2 dX5_has_19
set_option maxHeartbeats 4000000 in
set_option maxRecDepth 100000 in
theorem w_X5_has_0 {p : Program} {l : Launch} {e : Env} {s : State} {m : MethodId} {args : Array Value} {below : List Frame} {meth : Method} {c : Code} {A : Nat → Prop} {dC : Nat → ClassId} {dI : Nat → Nat → Nat} {cB cI cJ cZ : ClassId} {a_this a_bits a_times a_colours a_cube a_laid a_takes a_choice a_isChosen a_column a_next a_barredAt a_ways a_own a_goes a_rowGoes a_mark a_count a_colour : Nat} {v_thrown : Int32} {v_columns : Int32} {v_needed : Int32} {v_rows : Int32} {v_cubes : Int32} {v_placements : Int32} {v_taken : Int32} {v_chosen : Int32} {v_nodes : Int32} {v_found : Int32} {v_isSpent : Int32} {v_told : Int32} {v_kept : Int32} {v_turns : Int32} {v_toldNodes : Int32} {v_bits : (Nat → Int32)} {out : Int32 × Unit} (C0 : Cx RX5 cX5_has (some .boolean) 3 wsX5_has p s m args meth c A) (hK : va_K (dC, dI) vwCl (tysG cB cI cJ cZ) s)  : g_X5_has_0 p l e s m args below meth c A dC dI cB cI cJ cZ a_this a_bits a_times a_colours a_cube a_laid a_takes a_choice a_isChosen a_column a_next a_barredAt a_ways a_own a_goes a_rowGoes a_mark a_count a_colour v_thrown v_columns v_needed v_rows v_cubes v_placements v_taken v_chosen v_nodes v_found v_isSpent v_told v_kept v_turns v_toldNodes v_bits out (f_X5_has v_bits ) := by
  obtain ⟨hx, hb, hr, hml, hown, hts, hlocks, hA⟩ := id C0
  intro x1 x2 hf H locs hP hD hS ls hl
  replace hf : ((if (x1 < 0 ∨ 60 ≤ Int32.toNatClampNeg x1) then none else
  if (((v_bits (Int32.toNatClampNeg x1)) >>> (x2 &&& 31)) &&& (1 : Int32)) = (1 : Int32) then
  (f_X5_has_19 v_bits (1 : Int32))
  else
  (f_X5_has_19 v_bits (0 : Int32))) : Option (Int32 × Unit)) = some out := hf
  refine lv_aload_n hx hb dX5_has_0 rfl (lv_at hl 0 rfl) ?_
  refine va_get (D := (dC, dI)) (ci := 6) (v := .ref a_bits) (C := RX5) (T := TX5) (N := 33) hx hb hts in_X5_has_X5 hown hK hP 0 rfl rfl 5 (by decide) (hts (.fieldLink RX5 13 "LinkedCoversModel" "bits" "[I") lk_X5_has_f13) (fun _ h9 => h9) rfl dX5_has_1 ?_
  refine lv_iload_n hx hb dX5_has_4 rfl (lv_at hl 1 rfl) ?_
  obtain ⟨h_2, hf⟩ := gd_ck hf
  refine va_iald hx hb hK hP 1 1 rfl rfl h_2 dX5_has_5 ?_
  refine lv_iload_n hx hb dX5_has_6 rfl (lv_at hl 2 rfl) ?_
  refine lv_ishr hx hb dX5_has_7 ?_
  refine lv_iconst (v := 1) hx hb dX5_has_8 (by decide) ?_
  refine lv_iand hx hb dX5_has_9 ?_
  refine lv_iconst (v := 1) hx hb dX5_has_10 (by decide) ?_
  refine lv_icmp_ne (tgt := 18) hx hb dX5_has_11 (by decide) (fun c_3 => ?_) (fun c_3 => ?_)
  · replace hf := (if_neg c_3).symm.trans hf
    refine lv_iconst (v := 0) hx hb dX5_has_18 (by decide) ?_
    exact w_X5_has_19 C0 hK (0 : Int32) hf _ _ hP hD hS ls (lv_sub hl [] rfl)
  · replace hf := (if_pos c_3).symm.trans hf
    refine lv_iconst (v := 1) hx hb dX5_has_14 (by decide) ?_
    refine lv_goto (tgt := 19) hx hb dX5_has_15 (by decide) ?_
    exact w_X5_has_19 C0 hK (1 : Int32) hf _ _ hP hD hS ls (lv_sub hl [] rfl)
theorem nd_X5_has : yX5_has.cls ≠ "java/lang/invoke/MethodHandle" ∧ yX5_has.cls ≠ "java/lang/invoke/VarHandle" ∧ (parseMethodDescriptor yX5_has.desc).map (fun d => d.parameters.length) = some 2 := by decide +kernel
set_option maxHeartbeats 4000000 in
set_option maxRecDepth 100000 in
theorem c_X5_has (l : Launch) (dC : Nat → ClassId) (dI : Nat → Nat → Nat) (cB cI cJ cZ : ClassId) (a_this a_bits a_times a_colours a_cube a_laid a_takes a_choice a_isChosen a_column a_next a_barredAt a_ways a_own a_goes a_rowGoes a_mark a_count a_colour : Nat) (sz : Nat) (v_thrown : Int32) (v_columns : Int32) (v_needed : Int32) (v_rows : Int32) (v_cubes : Int32) (v_placements : Int32) (v_taken : Int32) (v_chosen : Int32) (v_nodes : Int32) (v_found : Int32) (v_isSpent : Int32) (v_told : Int32) (v_kept : Int32) (v_turns : Int32) (v_toldNodes : Int32) (v_bits : (Nat → Int32)) (x1 : Int32) (x2 : Int32) (out : Int32 × Unit) (hf : f_X5_has v_bits x1 x2 = some out) : Met l yX5_has wsX5_has rm_X5_has (va_Pc [.ref a_this, .int x1, .int x2] (fun U => U.heap.size = sz ∧ va_P (dC, dI) vwCl (ws_X5_has cB cI cJ cZ a_this a_bits a_times a_colours a_cube a_laid a_takes a_choice a_isChosen a_column a_next a_barredAt a_ways a_own a_goes a_rowGoes a_mark a_count a_colour v_thrown v_columns v_needed v_rows v_cubes v_placements v_taken v_chosen v_nodes v_found v_isSpent v_told v_kept v_turns v_toldNodes v_bits) U.heap ∧ va_K (dC, dI) vwCl (tysG cB cI cJ cZ) U ∧ va_D (fun _ => True) (ws_X5_has cB cI cJ cZ a_this a_bits a_times a_colours a_cube a_laid a_takes a_choice a_isChosen a_column a_next a_barredAt a_ways a_own a_goes a_rowGoes a_mark a_count a_colour v_thrown v_columns v_needed v_rows v_cubes v_placements v_taken v_chosen v_nodes v_found v_isSpent v_told v_kept v_turns v_toldNodes v_bits))) (qc_X5_has (va_A (ws_X5_has cB cI cJ cZ a_this a_bits a_times a_colours a_cube a_laid a_takes a_choice a_isChosen a_column a_next a_barredAt a_ways a_own a_goes a_rowGoes a_mark a_count a_colour v_thrown v_columns v_needed v_rows v_cubes v_placements v_taken v_chosen v_nodes v_found v_isSpent v_told v_kept v_turns v_toldNodes v_bits) sz) dC dI cB cI cJ cZ a_this a_bits a_times a_colours a_cube a_laid a_takes a_choice a_isChosen a_column a_next a_barredAt a_ways a_own a_goes a_rowGoes a_mark a_count a_colour v_thrown v_columns v_needed v_rows v_cubes v_placements v_taken v_chosen v_nodes v_found v_isSpent v_told v_kept v_turns v_toldNodes v_bits out) 0 0 (va_A (ws_X5_has cB cI cJ cZ a_this a_bits a_times a_colours a_cube a_laid a_takes a_choice a_isChosen a_column a_next a_barredAt a_ways a_own a_goes a_rowGoes a_mark a_count a_colour v_thrown v_columns v_needed v_rows v_cubes v_placements v_taken v_chosen v_nodes v_found v_isSpent v_told v_kept v_turns v_toldNodes v_bits) sz) := by
  refine Met.ofW (cc := cX5_has) (maxL := 3) (ret := (some .boolean)) (by decide) rfl ?_
  intro p e s m args below meth c s₁ B hml hv
  obtain ⟨rfl, hsz, hP, hK, hD0⟩ := hv
  subst hsz
  have hD := hD0.self (sz := s.heap.size)
  generalize hAe : va_A (ws_X5_has cB cI cJ cZ a_this a_bits a_times a_colours a_cube a_laid a_takes a_choice a_isChosen a_column a_next a_barredAt a_ways a_own a_goes a_rowGoes a_mark a_count a_colour v_thrown v_columns v_needed v_rows v_cubes v_placements v_taken v_chosen v_nodes v_found v_isSpent v_told v_kept v_turns v_toldNodes v_bits) s.heap.size = A at hD ⊢
  have hA : ∀ q : Nat, s.heap.size ≤ q → A q := fun q h => by rw [← hAe]; exact Or.inr h
  have hl := lv_entry ([.ref a_this, .int x1, .int x2]) (n := 3) (Nat.le_of_ble_eq_true rfl)
  rw [lg_entry_eq]
  generalize (lg_sl ([.ref a_this, .int x1, .int x2]) ++ List.replicate (3 - (lg_sl ([.ref a_this, .int x1, .int x2])).length) Slot.unset).toArray = ls at hl ⊢
  have hl : lv_has ls 3 [(0, .ref a_this), (1, .int x1), (2, .int x2)] := hl
  exact w_X5_has_0 ⟨B.exec, B.bytes, B.returns, hml, findClass_of_methodNamed B.named, atoms_spec (ws := wsX5_has) B.pre, B.notSynchronized, hA⟩ hK x1 x2 hf _ _ hP hD va_S.rf ls (lv_sub hl [0, 1, 2] rfl)
-- X5.countOf(I)I: 19 instructions
abbrev ws_X5_countOf (cB cI cJ cZ : ClassId)  : va_W := []
abbrev rm_X5_countOf : Room := { frames := 0, cells := 0, slots := 0, locals := 0 }
def f_X5_countOf_4   : Nat → Int32 → Int32 → Int32 → Option (Int32 × Unit)
  | 0 => fun _ _ _ => none
  | n + 1 => fun x0 x1 x2 => if (24 : Int32) ≤ x2 then
  (some ((x1, ())))
  else
  (f_X5_countOf_4 n x0 (x1 + ((x0 >>> (x2 &&& 31)) &&& (1 : Int32))) (x2 + 1))
def f_X5_countOf   (x0 : Int32) : Option (Int32 × Unit) :=
  f_X5_countOf_4 1000000 x0 (0 : Int32) (0 : Int32)
abbrev qc_X5_countOf (A : Nat → Prop) (dC : Nat → ClassId) (dI : Nat → Nat → Nat) (cB cI cJ cZ : ClassId)  (out : Int32 × Unit) : Array Value → State → Outcome → State → Prop := va_Qi (fun (r : Int32) (u : Unit) => r = out.1 ∧ u = out.2) (fun (u : Unit) (t : State) => va_P (dC, dI) vwCl (ws_X5_countOf cB cI cJ cZ  ) t.heap ∧ va_K (dC, dI) vwCl (tysG cB cI cJ cZ) t ∧ va_D A (ws_X5_countOf cB cI cJ cZ  )) A
abbrev g_X5_countOf_4 (p : Program) (l : Launch) (e : Env) (s : State) (m : MethodId) (args : Array Value) (below : List Frame) (meth : Method) (c : Code) (A : Nat → Prop) (dC : Nat → ClassId) (dI : Nat → Nat → Nat) (cB cI cJ cZ : ClassId)  (out : Int32 × Unit) (k : Int32 → Int32 → Int32 → Option (Int32 × Unit)) : Prop := ∀ (x0 : Int32) (x1 : Int32) (x2 : Int32), k x0 x1 x2 = some out → ∀ (H : Heap) (locs : List Loc), va_P (dC, dI) vwCl (ws_X5_countOf cB cI cJ cZ  ) H → va_D A (ws_X5_countOf cB cI cJ cZ  ) → va_S A s.heap H locs → ∀ (ls : Array Slot), lv_has ls 3 [(0, .int x0), (1, .int x1), (2, .int x2)] → W p l e (headSpec wsX5_countOf rm_X5_countOf).room s m args below meth c H locs 0 0 (MQ below (qc_X5_countOf A dC dI cB cI cJ cZ   out) args s 0 0 A) (F0 m 4 ls [])
abbrev g_X5_countOf_0 (p : Program) (l : Launch) (e : Env) (s : State) (m : MethodId) (args : Array Value) (below : List Frame) (meth : Method) (c : Code) (A : Nat → Prop) (dC : Nat → ClassId) (dI : Nat → Nat → Nat) (cB cI cJ cZ : ClassId)  (out : Int32 × Unit) (k : Int32 → Option (Int32 × Unit)) : Prop := ∀ (x0 : Int32), k x0 = some out → ∀ (H : Heap) (locs : List Loc), va_P (dC, dI) vwCl (ws_X5_countOf cB cI cJ cZ  ) H → va_D A (ws_X5_countOf cB cI cJ cZ  ) → va_S A s.heap H locs → ∀ (ls : Array Slot), lv_has ls 3 [(0, .int x0)] → W p l e (headSpec wsX5_countOf rm_X5_countOf).room s m args below meth c H locs 0 0 (MQ below (qc_X5_countOf A dC dI cB cI cJ cZ   out) args s 0 0 A) (F0 m 0 ls [])
set_option maxHeartbeats 4000000 in
set_option maxRecDepth 100000 in
theorem w_X5_countOf_4 {p : Program} {l : Launch} {e : Env} {s : State} {m : MethodId} {args : Array Value} {below : List Frame} {meth : Method} {c : Code} {A : Nat → Prop} {dC : Nat → ClassId} {dI : Nat → Nat → Nat} {cB cI cJ cZ : ClassId}  {out : Int32 × Unit} (C0 : Cx RX5 cX5_countOf (some .int) 3 wsX5_countOf p s m args meth c A) (hK : va_K (dC, dI) vwCl (tysG cB cI cJ cZ) s)  : ∀ n : Nat, g_X5_countOf_4 p l e s m args below meth c A dC dI cB cI cJ cZ   out (f_X5_countOf_4   n) := by
  obtain ⟨hx, hb, hr, hml, hown, hts, hlocks, hA⟩ := id C0
  intro n
  induction n with
  | zero =>
    intro x0 x1 x2 hf H locs hP hD hS ls hl
    exact nomatch (show (none : Option (Int32 × Unit)) = some out from hf)
  | succ n ih =>
    intro x0 x1 x2 hf H locs hP hD hS ls hl
    replace hf : ((if (24 : Int32) ≤ x2 then
  (some ((x1, ())))
  else
  (f_X5_countOf_4 n x0 (x1 + ((x0 >>> (x2 &&& 31)) &&& (1 : Int32))) (x2 + 1))) : Option (Int32 × Unit)) = some out := hf
    refine lv_iload_n hx hb dX5_countOf_4 rfl (lv_at hl 2 rfl) ?_
    refine lv_bipush (v := 24) hx hb dX5_countOf_5 (by decide) ?_
    refine lv_icmp_ge (tgt := 24) hx hb dX5_countOf_7 (by decide) (fun c_1 => ?_) (fun c_1 => ?_)
    · replace hf := (if_pos c_1).symm.trans hf
      refine lv_iload_n hx hb dX5_countOf_24 rfl (lv_at hl 1 rfl) ?_
      have h9 := Option.some.inj hf
      have h8 := congrArg Prod.fst h9
      have h7 := congrArg Prod.snd h9
      exact W.iret (v := x1) hx hb hr (fun t ht hW => ⟨⟨x1, (), rfl, ⟨h8, h7⟩, by rw [ht]; exact hP, va_K.moved hW.alike hK, hD⟩, hS.F ht⟩) hS.2.2 dX5_countOf_25
    · replace hf := (if_neg c_1).symm.trans hf
      refine lv_iload_n hx hb dX5_countOf_10 rfl (lv_at hl 1 rfl) ?_
      refine lv_iload_n hx hb dX5_countOf_11 rfl (lv_at hl 0 rfl) ?_
      refine lv_iload_n hx hb dX5_countOf_12 rfl (lv_at hl 2 rfl) ?_
      refine lv_ishr hx hb dX5_countOf_13 ?_
      refine lv_iconst (v := 1) hx hb dX5_countOf_14 (by decide) ?_
      refine lv_iand hx hb dX5_countOf_15 ?_
      refine lv_iadd hx hb dX5_countOf_16 ?_
      refine lv_istore_n (lv' := [(1, .int (x1 + ((x0 >>> (x2 &&& 31)) &&& (1 : Int32)))), (0, .int x0), (2, .int x2)]) hx hb dX5_countOf_17 rfl hl (by decide) rfl (fun ls hl => ?_)
      refine lv_iinc (v := (x2 + 1)) (lv' := [(2, .int (x2 + 1)), (1, .int (x1 + ((x0 >>> (x2 &&& 31)) &&& (1 : Int32)))), (0, .int x0)]) hx hb dX5_countOf_18 hl (k := 2) rfl rfl (by decide) rfl (fun ls hl => ?_)
      refine lv_goto (tgt := 4) hx hb dX5_countOf_21 (by decide) ?_
      exact ih x0 (x1 + ((x0 >>> (x2 &&& 31)) &&& (1 : Int32))) (x2 + 1) hf _ _ hP hD hS ls (lv_sub hl [2, 1, 0] rfl)
set_option maxHeartbeats 4000000 in
set_option maxRecDepth 100000 in
theorem w_X5_countOf_0 {p : Program} {l : Launch} {e : Env} {s : State} {m : MethodId} {args : Array Value} {below : List Frame} {meth : Method} {c : Code} {A : Nat → Prop} {dC : Nat → ClassId} {dI : Nat → Nat → Nat} {cB cI cJ cZ : ClassId}  {out : Int32 × Unit} (C0 : Cx RX5 cX5_countOf (some .int) 3 wsX5_countOf p s m args meth c A) (hK : va_K (dC, dI) vwCl (tysG cB cI cJ cZ) s)  : g_X5_countOf_0 p l e s m args below meth c A dC dI cB cI cJ cZ   out (f_X5_countOf  ) := by
  obtain ⟨hx, hb, hr, hml, hown, hts, hlocks, hA⟩ := id C0
  intro x0 hf H locs hP hD hS ls hl
  replace hf : ((f_X5_countOf_4 1000000 x0 (0 : Int32) (0 : Int32)) : Option (Int32 × Unit)) = some out := hf
  refine lv_iconst (v := 0) hx hb dX5_countOf_0 (by decide) ?_
  refine lv_istore_n (lv' := [(1, .int (0 : Int32)), (0, .int x0)]) hx hb dX5_countOf_1 rfl hl (by decide) rfl (fun ls hl => ?_)
  refine lv_iconst (v := 0) hx hb dX5_countOf_2 (by decide) ?_
  refine lv_istore_n (lv' := [(2, .int (0 : Int32)), (1, .int (0 : Int32)), (0, .int x0)]) hx hb dX5_countOf_3 rfl hl (by decide) rfl (fun ls hl => ?_)
  exact w_X5_countOf_4 C0 hK 1000000 x0 (0 : Int32) (0 : Int32) hf _ _ hP hD hS ls (lv_sub hl [2, 1, 0] rfl)
theorem nd_X5_countOf : yX5_countOf.cls ≠ "java/lang/invoke/MethodHandle" ∧ yX5_countOf.cls ≠ "java/lang/invoke/VarHandle" ∧ (parseMethodDescriptor yX5_countOf.desc).map (fun d => d.parameters.length) = some 1 := by decide +kernel
set_option maxHeartbeats 4000000 in
set_option maxRecDepth 100000 in
theorem c_X5_countOf (l : Launch) (dC : Nat → ClassId) (dI : Nat → Nat → Nat) (cB cI cJ cZ : ClassId) (sz : Nat)  (x0 : Int32) (out : Int32 × Unit) (hf : f_X5_countOf  x0 = some out) : Met l yX5_countOf wsX5_countOf rm_X5_countOf (va_Pc [.int x0] (fun U => U.heap.size = sz ∧ va_P (dC, dI) vwCl (ws_X5_countOf cB cI cJ cZ  ) U.heap ∧ va_K (dC, dI) vwCl (tysG cB cI cJ cZ) U ∧ va_D (fun _ => True) (ws_X5_countOf cB cI cJ cZ  ))) (qc_X5_countOf (va_A (ws_X5_countOf cB cI cJ cZ  ) sz) dC dI cB cI cJ cZ   out) 0 0 (va_A (ws_X5_countOf cB cI cJ cZ  ) sz) := by
  refine Met.ofW (cc := cX5_countOf) (maxL := 3) (ret := (some .int)) (by decide) rfl ?_
  intro p e s m args below meth c s₁ B hml hv
  obtain ⟨rfl, hsz, hP, hK, hD0⟩ := hv
  subst hsz
  have hD := hD0.self (sz := s.heap.size)
  generalize hAe : va_A (ws_X5_countOf cB cI cJ cZ  ) s.heap.size = A at hD ⊢
  have hA : ∀ q : Nat, s.heap.size ≤ q → A q := fun q h => by rw [← hAe]; exact Or.inr h
  have hl := lv_entry ([.int x0]) (n := 3) (Nat.le_of_ble_eq_true rfl)
  rw [lg_entry_eq]
  generalize (lg_sl ([.int x0]) ++ List.replicate (3 - (lg_sl ([.int x0])).length) Slot.unset).toArray = ls at hl ⊢
  have hl : lv_has ls 3 [(0, .int x0)] := hl
  exact w_X5_countOf_0 ⟨B.exec, B.bytes, B.returns, hml, findClass_of_methodNamed B.named, atoms_spec (ws := wsX5_countOf) B.pre, B.notSynchronized, hA⟩ hK x0 hf _ _ hP hD va_S.rf ls (lv_sub hl [0] rfl)
-- X5.times(II)Z: 36 instructions
theorem in_X5_times_X5 : ∀ w ∈ wsX50, w ∈ wsX5_times := by decide +kernel
abbrev ws_X5_times (cB cI cJ cZ : ClassId) (a_this a_times a_bits a_colours a_cube a_laid a_takes a_choice a_isChosen a_column a_next a_barredAt a_ways a_own a_goes a_rowGoes a_mark a_count a_colour : Nat) (v_thrown : Int32) (v_columns : Int32) (v_needed : Int32) (v_rows : Int32) (v_cubes : Int32) (v_placements : Int32) (v_taken : Int32) (v_chosen : Int32) (v_nodes : Int32) (v_found : Int32) (v_isSpent : Int32) (v_told : Int32) (v_kept : Int32) (v_turns : Int32) (v_toldNodes : Int32) (v_times : (Nat → Int32)) : va_W := [(a_this, .inr (6, [.int v_thrown, .int v_columns, .int v_needed, .ref a_times, .int v_rows, .ref a_bits, .ref a_colours, .int v_cubes, .ref a_cube, .ref a_laid, .int v_placements, .int v_taken, .ref a_takes, .int v_chosen, .ref a_choice, .ref a_isChosen, .ref a_column, .ref a_next, .ref a_barredAt, .int v_nodes, .int v_found, .int v_isSpent, .int v_told, .int v_kept, .ref a_ways, .ref a_own, .int v_turns, .ref a_goes, .ref a_rowGoes, .ref a_mark, .ref a_count, .ref a_colour, .int v_toldNodes])), (a_times, .inl (cI, 24, .inl v_times))]
abbrev rm_X5_times : Room := { frames := 1, cells := 0, slots := 0, locals := 22 }
theorem lk_X5_times_f70 : Cond.fieldLink RX5 70 "LinkedCoversModel" "needed" "I" ∈ wsX5_times := by decide +kernel
theorem lk_X5_times_f87 : Cond.fieldLink RX5 87 "LinkedCoversModel" "taken" "I" ∈ wsX5_times := by decide +kernel
theorem lk_X5_times_f7 : Cond.fieldLink RX5 7 "LinkedCoversModel" "times" "[I" ∈ wsX5_times := by decide +kernel
theorem lk_X5_times_f90 : Cond.fieldLink RX5 90 "LinkedCoversModel" "kept" "I" ∈ wsX5_times := by decide +kernel
def f_X5_times_46 (v_columns : Int32) (v_needed : Int32) (v_taken : Int32)  (v_thrown : Int32) (v_kept : Int32) (v_times : (Nat → Int32)) : Option (Int32 × Int32 × Int32 × (Nat → Int32)) :=
  some (((0 : Int32), (v_thrown, v_kept, v_times)))
def f_X5_times_15 (v_columns : Int32) (v_needed : Int32) (v_taken : Int32)  (v_thrown : Int32) (v_kept : Int32) (v_times : (Nat → Int32)) (x1 : Int32) (x2 : Int32) (y0 : Int32) (y1 : Int32) : Option (Int32 × Int32 × Int32 × (Nat → Int32)) :=
  (f_X5_throwsIf v_thrown y1 y0).bind (fun o_1 =>
  if o_1.1 = 0 then
  (if x2 < (1 : Int32) then
  (f_X5_times_46 v_columns v_needed v_taken o_1.2 v_kept v_times)
  else
  (if (3 : Int32) < x2 then
  (f_X5_times_46 v_columns v_needed v_taken o_1.2 v_kept v_times)
  else
  (if v_needed ≤ x1 then
  (f_X5_times_46 v_columns v_needed v_taken o_1.2 v_kept v_times)
  else
  (if v_taken ≤ 0 then
  (if (x1 < 0 ∨ 24 ≤ Int32.toNatClampNeg x1) then none else
  some (((1 : Int32), (o_1.2, (0 : Int32), (upd v_times (Int32.toNatClampNeg x1) x2)))))
  else
  (f_X5_times_46 v_columns v_needed v_taken o_1.2 v_kept v_times)))))
  else
  (f_X5_times_46 v_columns v_needed v_taken o_1.2 v_kept v_times))
def f_X5_times (v_columns : Int32) (v_needed : Int32) (v_taken : Int32)  (v_thrown : Int32) (v_kept : Int32) (v_times : (Nat → Int32)) (x1 : Int32) (x2 : Int32) : Option (Int32 × Int32 × Int32 × (Nat → Int32)) :=
  (f_X5_isColumn v_columns x1).bind (fun o_8 =>
  if o_8.1 = 0 then
  (f_X5_times_15 v_columns v_needed v_taken v_thrown v_kept v_times x1 x2 (1 : Int32) (1 : Int32))
  else
  (f_X5_times_15 v_columns v_needed v_taken v_thrown v_kept v_times x1 x2 (0 : Int32) (1 : Int32)))
abbrev qc_X5_times (A : Nat → Prop) (dC : Nat → ClassId) (dI : Nat → Nat → Nat) (cB cI cJ cZ : ClassId) (a_this a_times a_bits a_colours a_cube a_laid a_takes a_choice a_isChosen a_column a_next a_barredAt a_ways a_own a_goes a_rowGoes a_mark a_count a_colour : Nat) (v_columns : Int32) (v_needed : Int32) (v_rows : Int32) (v_cubes : Int32) (v_placements : Int32) (v_taken : Int32) (v_chosen : Int32) (v_nodes : Int32) (v_found : Int32) (v_isSpent : Int32) (v_told : Int32) (v_turns : Int32) (v_toldNodes : Int32) (out : Int32 × Int32 × Int32 × (Nat → Int32)) : Array Value → State → Outcome → State → Prop := va_Qi (fun (r : Int32) (u : Int32 × Int32 × (Nat → Int32)) => r = out.1 ∧ u = out.2) (fun (u : Int32 × Int32 × (Nat → Int32)) (t : State) => va_P (dC, dI) vwCl (ws_X5_times cB cI cJ cZ a_this a_times a_bits a_colours a_cube a_laid a_takes a_choice a_isChosen a_column a_next a_barredAt a_ways a_own a_goes a_rowGoes a_mark a_count a_colour u.1 v_columns v_needed v_rows v_cubes v_placements v_taken v_chosen v_nodes v_found v_isSpent v_told u.2.1 v_turns v_toldNodes u.2.2) t.heap ∧ va_K (dC, dI) vwCl (tysG cB cI cJ cZ) t ∧ va_D A (ws_X5_times cB cI cJ cZ a_this a_times a_bits a_colours a_cube a_laid a_takes a_choice a_isChosen a_column a_next a_barredAt a_ways a_own a_goes a_rowGoes a_mark a_count a_colour u.1 v_columns v_needed v_rows v_cubes v_placements v_taken v_chosen v_nodes v_found v_isSpent v_told u.2.1 v_turns v_toldNodes u.2.2)) A
abbrev g_X5_times_46 (p : Program) (l : Launch) (e : Env) (s : State) (m : MethodId) (args : Array Value) (below : List Frame) (meth : Method) (c : Code) (A : Nat → Prop) (dC : Nat → ClassId) (dI : Nat → Nat → Nat) (cB cI cJ cZ : ClassId) (a_this a_times a_bits a_colours a_cube a_laid a_takes a_choice a_isChosen a_column a_next a_barredAt a_ways a_own a_goes a_rowGoes a_mark a_count a_colour : Nat) (v_columns : Int32) (v_needed : Int32) (v_rows : Int32) (v_cubes : Int32) (v_placements : Int32) (v_taken : Int32) (v_chosen : Int32) (v_nodes : Int32) (v_found : Int32) (v_isSpent : Int32) (v_told : Int32) (v_turns : Int32) (v_toldNodes : Int32) (out : Int32 × Int32 × Int32 × (Nat → Int32)) (k : Int32 → Int32 → (Nat → Int32) → Option (Int32 × Int32 × Int32 × (Nat → Int32))) : Prop := ∀ (v_thrown : Int32) (v_kept : Int32) (v_times : (Nat → Int32)), k v_thrown v_kept v_times = some out → ∀ (H : Heap) (locs : List Loc), va_P (dC, dI) vwCl (ws_X5_times cB cI cJ cZ a_this a_times a_bits a_colours a_cube a_laid a_takes a_choice a_isChosen a_column a_next a_barredAt a_ways a_own a_goes a_rowGoes a_mark a_count a_colour v_thrown v_columns v_needed v_rows v_cubes v_placements v_taken v_chosen v_nodes v_found v_isSpent v_told v_kept v_turns v_toldNodes v_times) H → va_D A (ws_X5_times cB cI cJ cZ a_this a_times a_bits a_colours a_cube a_laid a_takes a_choice a_isChosen a_column a_next a_barredAt a_ways a_own a_goes a_rowGoes a_mark a_count a_colour v_thrown v_columns v_needed v_rows v_cubes v_placements v_taken v_chosen v_nodes v_found v_isSpent v_told v_kept v_turns v_toldNodes v_times) → va_S A s.heap H locs → ∀ (ls : Array Slot), lv_has ls 3 [] → W p l e (headSpec wsX5_times rm_X5_times).room s m args below meth c H locs 0 0 (MQ below (qc_X5_times A dC dI cB cI cJ cZ a_this a_times a_bits a_colours a_cube a_laid a_takes a_choice a_isChosen a_column a_next a_barredAt a_ways a_own a_goes a_rowGoes a_mark a_count a_colour v_columns v_needed v_rows v_cubes v_placements v_taken v_chosen v_nodes v_found v_isSpent v_told v_turns v_toldNodes out) args s 0 0 A) (F0 m 46 ls [])
abbrev g_X5_times_15 (p : Program) (l : Launch) (e : Env) (s : State) (m : MethodId) (args : Array Value) (below : List Frame) (meth : Method) (c : Code) (A : Nat → Prop) (dC : Nat → ClassId) (dI : Nat → Nat → Nat) (cB cI cJ cZ : ClassId) (a_this a_times a_bits a_colours a_cube a_laid a_takes a_choice a_isChosen a_column a_next a_barredAt a_ways a_own a_goes a_rowGoes a_mark a_count a_colour : Nat) (v_columns : Int32) (v_needed : Int32) (v_rows : Int32) (v_cubes : Int32) (v_placements : Int32) (v_taken : Int32) (v_chosen : Int32) (v_nodes : Int32) (v_found : Int32) (v_isSpent : Int32) (v_told : Int32) (v_turns : Int32) (v_toldNodes : Int32) (out : Int32 × Int32 × Int32 × (Nat → Int32)) (k : Int32 → Int32 → (Nat → Int32) → Int32 → Int32 → Int32 → Int32 → Option (Int32 × Int32 × Int32 × (Nat → Int32))) : Prop := ∀ (v_thrown : Int32) (v_kept : Int32) (v_times : (Nat → Int32)) (x1 : Int32) (x2 : Int32) (y0 : Int32) (y1 : Int32), k v_thrown v_kept v_times x1 x2 y0 y1 = some out → ∀ (H : Heap) (locs : List Loc), va_P (dC, dI) vwCl (ws_X5_times cB cI cJ cZ a_this a_times a_bits a_colours a_cube a_laid a_takes a_choice a_isChosen a_column a_next a_barredAt a_ways a_own a_goes a_rowGoes a_mark a_count a_colour v_thrown v_columns v_needed v_rows v_cubes v_placements v_taken v_chosen v_nodes v_found v_isSpent v_told v_kept v_turns v_toldNodes v_times) H → va_D A (ws_X5_times cB cI cJ cZ a_this a_times a_bits a_colours a_cube a_laid a_takes a_choice a_isChosen a_column a_next a_barredAt a_ways a_own a_goes a_rowGoes a_mark a_count a_colour v_thrown v_columns v_needed v_rows v_cubes v_placements v_taken v_chosen v_nodes v_found v_isSpent v_told v_kept v_turns v_toldNodes v_times) → va_S A s.heap H locs → ∀ (ls : Array Slot), lv_has ls 3 [(0, .ref a_this), (1, .int x1), (2, .int x2)] → W p l e (headSpec wsX5_times rm_X5_times).room s m args below meth c H locs 0 0 (MQ below (qc_X5_times A dC dI cB cI cJ cZ a_this a_times a_bits a_colours a_cube a_laid a_takes a_choice a_isChosen a_column a_next a_barredAt a_ways a_own a_goes a_rowGoes a_mark a_count a_colour v_columns v_needed v_rows v_cubes v_placements v_taken v_chosen v_nodes v_found v_isSpent v_told v_turns v_toldNodes out) args s 0 0 A) (F0 m 15 ls [.int y0, .int y1, .ref a_this])
abbrev g_X5_times_0 (p : Program) (l : Launch) (e : Env) (s : State) (m : MethodId) (args : Array Value) (below : List Frame) (meth : Method) (c : Code) (A : Nat → Prop) (dC : Nat → ClassId) (dI : Nat → Nat → Nat) (cB cI cJ cZ : ClassId) (a_this a_times a_bits a_colours a_cube a_laid a_takes a_choice a_isChosen a_column a_next a_barredAt a_ways a_own a_goes a_rowGoes a_mark a_count a_colour : Nat) (v_columns : Int32) (v_needed : Int32) (v_rows : Int32) (v_cubes : Int32) (v_placements : Int32) (v_taken : Int32) (v_chosen : Int32) (v_nodes : Int32) (v_found : Int32) (v_isSpent : Int32) (v_told : Int32) (v_turns : Int32) (v_toldNodes : Int32) (out : Int32 × Int32 × Int32 × (Nat → Int32)) (k : Int32 → Int32 → (Nat → Int32) → Int32 → Int32 → Option (Int32 × Int32 × Int32 × (Nat → Int32))) : Prop := ∀ (v_thrown : Int32) (v_kept : Int32) (v_times : (Nat → Int32)) (x1 : Int32) (x2 : Int32), k v_thrown v_kept v_times x1 x2 = some out → ∀ (H : Heap) (locs : List Loc), va_P (dC, dI) vwCl (ws_X5_times cB cI cJ cZ a_this a_times a_bits a_colours a_cube a_laid a_takes a_choice a_isChosen a_column a_next a_barredAt a_ways a_own a_goes a_rowGoes a_mark a_count a_colour v_thrown v_columns v_needed v_rows v_cubes v_placements v_taken v_chosen v_nodes v_found v_isSpent v_told v_kept v_turns v_toldNodes v_times) H → va_D A (ws_X5_times cB cI cJ cZ a_this a_times a_bits a_colours a_cube a_laid a_takes a_choice a_isChosen a_column a_next a_barredAt a_ways a_own a_goes a_rowGoes a_mark a_count a_colour v_thrown v_columns v_needed v_rows v_cubes v_placements v_taken v_chosen v_nodes v_found v_isSpent v_told v_kept v_turns v_toldNodes v_times) → va_S A s.heap H locs → ∀ (ls : Array Slot), lv_has ls 3 [(0, .ref a_this), (1, .int x1), (2, .int x2)] → W p l e (headSpec wsX5_times rm_X5_times).room s m args below meth c H locs 0 0 (MQ below (qc_X5_times A dC dI cB cI cJ cZ a_this a_times a_bits a_colours a_cube a_laid a_takes a_choice a_isChosen a_column a_next a_barredAt a_ways a_own a_goes a_rowGoes a_mark a_count a_colour v_columns v_needed v_rows v_cubes v_placements v_taken v_chosen v_nodes v_found v_isSpent v_told v_turns v_toldNodes out) args s 0 0 A) (F0 m 0 ls [])
set_option maxHeartbeats 4000000 in
set_option maxRecDepth 100000 in
theorem w_X5_times_46 {p : Program} {l : Launch} {e : Env} {s : State} {m : MethodId} {args : Array Value} {below : List Frame} {meth : Method} {c : Code} {A : Nat → Prop} {dC : Nat → ClassId} {dI : Nat → Nat → Nat} {cB cI cJ cZ : ClassId} {a_this a_times a_bits a_colours a_cube a_laid a_takes a_choice a_isChosen a_column a_next a_barredAt a_ways a_own a_goes a_rowGoes a_mark a_count a_colour : Nat} {v_columns : Int32} {v_needed : Int32} {v_rows : Int32} {v_cubes : Int32} {v_placements : Int32} {v_taken : Int32} {v_chosen : Int32} {v_nodes : Int32} {v_found : Int32} {v_isSpent : Int32} {v_told : Int32} {v_turns : Int32} {v_toldNodes : Int32} {out : Int32 × Int32 × Int32 × (Nat → Int32)} (C0 : Cx RX5 cX5_times (some .boolean) 3 wsX5_times p s m args meth c A) (hK : va_K (dC, dI) vwCl (tysG cB cI cJ cZ) s)  : g_X5_times_46 p l e s m args below meth c A dC dI cB cI cJ cZ a_this a_times a_bits a_colours a_cube a_laid a_takes a_choice a_isChosen a_column a_next a_barredAt a_ways a_own a_goes a_rowGoes a_mark a_count a_colour v_columns v_needed v_rows v_cubes v_placements v_taken v_chosen v_nodes v_found v_isSpent v_told v_turns v_toldNodes out (f_X5_times_46 v_columns v_needed v_taken ) := by
  obtain ⟨hx, hb, hr, hml, hown, hts, hlocks, hA⟩ := id C0
  intro v_thrown v_kept v_times hf H locs hP hD hS ls hl
  replace hf : ((some (((0 : Int32), (v_thrown, v_kept, v_times)))) : Option (Int32 × Int32 × Int32 × (Nat → Int32))) = some out := hf
  refine lv_iconst (v := 0) hx hb dX5_times_46 (by decide) ?_
  have h9 := Option.some.inj hf
  have h8 := congrArg Prod.fst h9
  have h7 := congrArg Prod.snd h9
  exact W.zret (v := (0 : Int32)) hx hb hr rfl (fun t ht hW => ⟨⟨(0 : Int32), (v_thrown, v_kept, v_times), rfl, ⟨h8, h7⟩, by rw [ht]; exact hP, va_K.moved hW.alike hK, hD⟩, hS.F ht⟩) hS.2.2 dX5_times_47
set_option maxHeartbeats 4000000 in
set_option maxRecDepth 100000 in
theorem w_X5_times_15 {p : Program} {l : Launch} {e : Env} {s : State} {m : MethodId} {args : Array Value} {below : List Frame} {meth : Method} {c : Code} {A : Nat → Prop} {dC : Nat → ClassId} {dI : Nat → Nat → Nat} {cB cI cJ cZ : ClassId} {a_this a_times a_bits a_colours a_cube a_laid a_takes a_choice a_isChosen a_column a_next a_barredAt a_ways a_own a_goes a_rowGoes a_mark a_count a_colour : Nat} {v_columns : Int32} {v_needed : Int32} {v_rows : Int32} {v_cubes : Int32} {v_placements : Int32} {v_taken : Int32} {v_chosen : Int32} {v_nodes : Int32} {v_found : Int32} {v_isSpent : Int32} {v_told : Int32} {v_turns : Int32} {v_toldNodes : Int32} {out : Int32 × Int32 × Int32 × (Nat → Int32)} (C0 : Cx RX5 cX5_times (some .boolean) 3 wsX5_times p s m args meth c A) (hK : va_K (dC, dI) vwCl (tysG cB cI cJ cZ) s)  : g_X5_times_15 p l e s m args below meth c A dC dI cB cI cJ cZ a_this a_times a_bits a_colours a_cube a_laid a_takes a_choice a_isChosen a_column a_next a_barredAt a_ways a_own a_goes a_rowGoes a_mark a_count a_colour v_columns v_needed v_rows v_cubes v_placements v_taken v_chosen v_nodes v_found v_isSpent v_told v_turns v_toldNodes out (f_X5_times_15 v_columns v_needed v_taken ) := by
  obtain ⟨hx, hb, hr, hml, hown, hts, hlocks, hA⟩ := id C0
  intro v_thrown v_kept v_times x1 x2 y0 y1 hf H locs hP hD hS ls hl
  replace hf : (((f_X5_throwsIf v_thrown y1 y0).bind (fun o_1 =>
  if o_1.1 = 0 then
  (if x2 < (1 : Int32) then
  (f_X5_times_46 v_columns v_needed v_taken o_1.2 v_kept v_times)
  else
  (if (3 : Int32) < x2 then
  (f_X5_times_46 v_columns v_needed v_taken o_1.2 v_kept v_times)
  else
  (if v_needed ≤ x1 then
  (f_X5_times_46 v_columns v_needed v_taken o_1.2 v_kept v_times)
  else
  (if v_taken ≤ 0 then
  (if (x1 < 0 ∨ 24 ≤ Int32.toNatClampNeg x1) then none else
  some (((1 : Int32), (o_1.2, (0 : Int32), (upd v_times (Int32.toNatClampNeg x1) x2)))))
  else
  (f_X5_times_46 v_columns v_needed v_taken o_1.2 v_kept v_times)))))
  else
  (f_X5_times_46 v_columns v_needed v_taken o_1.2 v_kept v_times))) : Option (Int32 × Int32 × Int32 × (Nat → Int32))) = some out := hf
  obtain ⟨o_1, ho_1, hf⟩ := gd_bd hf
  have hPc := hP.sub (ws' := ws_X5_throwsIf cB cI cJ cZ a_this a_times a_bits a_colours a_cube a_laid a_takes a_choice a_isChosen a_column a_next a_barredAt a_ways a_own a_goes a_rowGoes a_mark a_count a_colour v_thrown v_columns v_needed v_rows v_cubes v_placements v_taken v_chosen v_nodes v_found v_isSpent v_told v_kept v_turns v_toldNodes) [0] rfl
  have hDc := hD.sub (ws' := ws_X5_throwsIf cB cI cJ cZ a_this a_times a_bits a_colours a_cube a_laid a_takes a_choice a_isChosen a_column a_next a_barredAt a_ways a_own a_goes a_rowGoes a_mark a_count a_colour v_thrown v_columns v_needed v_rows v_cubes v_placements v_taken v_chosen v_nodes v_found v_isSpent v_told v_kept v_turns v_toldNodes) [0] (by decide) rfl
  have hFc := va_free (wc := ws_X5_throwsIf cB cI cJ cZ a_this a_times a_bits a_colours a_cube a_laid a_takes a_choice a_isChosen a_column a_next a_barredAt a_ways a_own a_goes a_rowGoes a_mark a_count a_colour v_thrown v_columns v_needed v_rows v_cubes v_placements v_taken v_chosen v_nodes v_found v_isSpent v_told v_kept v_turns v_toldNodes) hD hS hA [0] rfl
  refine va_calli (va_runV (As := [.int y1, .int y0]) (rest := []) ⟨hx, hb, hml, hown, hts⟩ (c_X5_throwsIf l dC dI cB cI cJ cZ a_this a_times a_bits a_colours a_cube a_laid a_takes a_choice a_isChosen a_column a_next a_barredAt a_ways a_own a_goes a_rowGoes a_mark a_count a_colour H.size v_thrown v_columns v_needed v_rows v_cubes v_placements v_taken v_chosen v_nodes v_found v_isSpent v_told v_kept v_turns v_toldNodes y1 y0 o_1 ho_1) (cwV 2 hts gX5_times_X5_throwsIf rfl rfl rfl ⟨rfl, nd_X5_throwsIf⟩ ⟨Nat.le_of_ble_eq_true rfl, Nat.le_of_ble_eq_true rfl⟩) ⟨fun a U g mk q => by obtain ⟨q0, q1, qP, qK, qD⟩ := q; exact ⟨q0, q1, qP, va_K.moved (u := U) (U := U.calling g mk a) (Vm.Alike.refl U.vm) qK, qD⟩, va_recv hK hPc (ci := 6) (q0 := 0) rfl rfl, fun U hU hW => ⟨rfl, by rw [hU], by rw [hU]; exact hPc, va_K.moved hW.alike hK, hDc.weaken (fun _ _ _ _ => trivial)⟩⟩ rfl rfl hl.1 rfl (lv_room (Nat.le_of_ble_eq_true rfl)) dX5_times_15 ⟨Nat.le_of_ble_eq_true rfl, Nat.le_of_ble_eq_true rfl⟩) hS (fun q _ h => hFc q h) hFc (fun r_1 u_1 t H1 locs ht hvm hw hB hz1 hk1 hS => ?_)
  obtain ⟨rfl, rfl⟩ := hw
  obtain ⟨hP1, hK1, hD1⟩ := hB
  rw [ht] at hP1
  obtain ⟨hP, hD⟩ := va_join (wr := [(a_times, .inl (cI, 24, .inl v_times))]) (w1 := ws_X5_throwsIf cB cI cJ cZ a_this a_times a_bits a_colours a_cube a_laid a_takes a_choice a_isChosen a_column a_next a_barredAt a_ways a_own a_goes a_rowGoes a_mark a_count a_colour o_1.2 v_columns v_needed v_rows v_cubes v_placements v_taken v_chosen v_nodes v_found v_isSpent v_told v_kept v_turns v_toldNodes) hP hD [0] [1] rfl rfl (by decide) (by decide) hk1 hFc hP1 hD1
  generalize H1 = H at hP hS ⊢
  have hP : va_P (dC, dI) vwCl (ws_X5_times cB cI cJ cZ a_this a_times a_bits a_colours a_cube a_laid a_takes a_choice a_isChosen a_column a_next a_barredAt a_ways a_own a_goes a_rowGoes a_mark a_count a_colour o_1.2 v_columns v_needed v_rows v_cubes v_placements v_taken v_chosen v_nodes v_found v_isSpent v_told v_kept v_turns v_toldNodes v_times) H := hP.sub [1, 0] rfl
  have hD : va_D A (ws_X5_times cB cI cJ cZ a_this a_times a_bits a_colours a_cube a_laid a_takes a_choice a_isChosen a_column a_next a_barredAt a_ways a_own a_goes a_rowGoes a_mark a_count a_colour o_1.2 v_columns v_needed v_rows v_cubes v_placements v_taken v_chosen v_nodes v_found v_isSpent v_told v_kept v_turns v_toldNodes v_times) := hD.sub [1, 0] (by decide) rfl
  refine lv_if_ne (tgt := 46) hx hb dX5_times_18 (by decide) (fun c_2 => ?_) (fun c_2 => ?_)
  · replace hf := (if_neg c_2).symm.trans hf
    exact w_X5_times_46 C0 hK o_1.2 v_kept v_times hf _ _ hP hD hS ls (lv_sub hl [] rfl)
  · replace hf := (if_pos c_2).symm.trans hf
    refine lv_iload_n hx hb dX5_times_21 rfl (lv_at hl 2 rfl) ?_
    refine lv_iconst (v := 1) hx hb dX5_times_22 (by decide) ?_
    refine lv_icmp_lt (tgt := 46) hx hb dX5_times_23 (by decide) (fun c_3 => ?_) (fun c_3 => ?_)
    · replace hf := (if_pos c_3).symm.trans hf
      exact w_X5_times_46 C0 hK o_1.2 v_kept v_times hf _ _ hP hD hS ls (lv_sub hl [] rfl)
    · replace hf := (if_neg c_3).symm.trans hf
      refine lv_iload_n hx hb dX5_times_26 rfl (lv_at hl 2 rfl) ?_
      refine lv_iconst (v := 3) hx hb dX5_times_27 (by decide) ?_
      refine lv_icmp_gt (tgt := 46) hx hb dX5_times_28 (by decide) (fun c_4 => ?_) (fun c_4 => ?_)
      · replace hf := (if_pos c_4).symm.trans hf
        exact w_X5_times_46 C0 hK o_1.2 v_kept v_times hf _ _ hP hD hS ls (lv_sub hl [] rfl)
      · replace hf := (if_neg c_4).symm.trans hf
        refine lv_iload_n hx hb dX5_times_31 rfl (lv_at hl 1 rfl) ?_
        refine lv_aload_n hx hb dX5_times_32 rfl (lv_at hl 0 rfl) ?_
        refine va_get (D := (dC, dI)) (ci := 6) (v := .int v_needed) (C := RX5) (T := TX5) (N := 33) hx hb hts in_X5_times_X5 hown hK hP 0 rfl rfl 2 (by decide) (hts (.fieldLink RX5 70 "LinkedCoversModel" "needed" "I") lk_X5_times_f70) (fun _ h9 => h9) rfl dX5_times_33 ?_
        refine lv_icmp_ge (tgt := 46) hx hb dX5_times_36 (by decide) (fun c_5 => ?_) (fun c_5 => ?_)
        · replace hf := (if_pos c_5).symm.trans hf
          exact w_X5_times_46 C0 hK o_1.2 v_kept v_times hf _ _ hP hD hS ls (lv_sub hl [] rfl)
        · replace hf := (if_neg c_5).symm.trans hf
          refine lv_aload_n hx hb dX5_times_39 rfl (lv_at hl 0 rfl) ?_
          refine va_get (D := (dC, dI)) (ci := 6) (v := .int v_taken) (C := RX5) (T := TX5) (N := 33) hx hb hts in_X5_times_X5 hown hK hP 0 rfl rfl 11 (by decide) (hts (.fieldLink RX5 87 "LinkedCoversModel" "taken" "I") lk_X5_times_f87) (fun _ h9 => h9) rfl dX5_times_40 ?_
          refine lv_if_le (tgt := 48) hx hb dX5_times_43 (by decide) (fun c_6 => ?_) (fun c_6 => ?_)
          · replace hf := (if_pos c_6).symm.trans hf
            refine lv_aload_n hx hb dX5_times_48 rfl (lv_at hl 0 rfl) ?_
            refine va_get (D := (dC, dI)) (ci := 6) (v := .ref a_times) (C := RX5) (T := TX5) (N := 33) hx hb hts in_X5_times_X5 hown hK hP 0 rfl rfl 3 (by decide) (hts (.fieldLink RX5 7 "LinkedCoversModel" "times" "[I") lk_X5_times_f7) (fun _ h9 => h9) rfl dX5_times_49 ?_
            refine lv_iload_n hx hb dX5_times_52 rfl (lv_at hl 1 rfl) ?_
            refine lv_iload_n hx hb dX5_times_53 rfl (lv_at hl 2 rfl) ?_
            obtain ⟨h_7, hf⟩ := gd_ck hf
            refine va_iast hx hb hK hP hD hS 1 1 rfl rfl h_7 dX5_times_54 (fun H locs hP hD hS => ?_)
            have hP : va_P (dC, dI) vwCl (ws_X5_times cB cI cJ cZ a_this a_times a_bits a_colours a_cube a_laid a_takes a_choice a_isChosen a_column a_next a_barredAt a_ways a_own a_goes a_rowGoes a_mark a_count a_colour o_1.2 v_columns v_needed v_rows v_cubes v_placements v_taken v_chosen v_nodes v_found v_isSpent v_told v_kept v_turns v_toldNodes (upd v_times (Int32.toNatClampNeg x1) x2)) H := hP
            have hD : va_D A (ws_X5_times cB cI cJ cZ a_this a_times a_bits a_colours a_cube a_laid a_takes a_choice a_isChosen a_column a_next a_barredAt a_ways a_own a_goes a_rowGoes a_mark a_count a_colour o_1.2 v_columns v_needed v_rows v_cubes v_placements v_taken v_chosen v_nodes v_found v_isSpent v_told v_kept v_turns v_toldNodes (upd v_times (Int32.toNatClampNeg x1) x2)) := hD
            refine lv_aload_n hx hb dX5_times_55 rfl (lv_at hl 0 rfl) ?_
            refine lv_iconst (v := 0) hx hb dX5_times_56 (by decide) ?_
            refine va_put (D := (dC, dI)) (ci := 6) (v := .int (0 : Int32)) (ty := .int) (C := RX5) (T := TX5) (N := 33) hx hb hts in_X5_times_X5 tyX5 tyX5_ok nmX5 hown hK hP hD hS 0 rfl rfl 23 (by decide) (hts (.fieldLink RX5 90 "LinkedCoversModel" "kept" "I") lk_X5_times_f90) (fun _ h9 => h9) rfl (by decide +kernel) rfl rfl (Nat.le_of_ble_eq_true rfl) dX5_times_57 (fun H locs hP hD hS => ?_)
            have hP : va_P (dC, dI) vwCl (ws_X5_times cB cI cJ cZ a_this a_times a_bits a_colours a_cube a_laid a_takes a_choice a_isChosen a_column a_next a_barredAt a_ways a_own a_goes a_rowGoes a_mark a_count a_colour o_1.2 v_columns v_needed v_rows v_cubes v_placements v_taken v_chosen v_nodes v_found v_isSpent v_told (0 : Int32) v_turns v_toldNodes (upd v_times (Int32.toNatClampNeg x1) x2)) H := hP
            have hD : va_D A (ws_X5_times cB cI cJ cZ a_this a_times a_bits a_colours a_cube a_laid a_takes a_choice a_isChosen a_column a_next a_barredAt a_ways a_own a_goes a_rowGoes a_mark a_count a_colour o_1.2 v_columns v_needed v_rows v_cubes v_placements v_taken v_chosen v_nodes v_found v_isSpent v_told (0 : Int32) v_turns v_toldNodes (upd v_times (Int32.toNatClampNeg x1) x2)) := hD
            refine lv_iconst (v := 1) hx hb dX5_times_60 (by decide) ?_
            have h9 := Option.some.inj hf
            have h8 := congrArg Prod.fst h9
            have h7 := congrArg Prod.snd h9
            exact W.zret (v := (1 : Int32)) hx hb hr rfl (fun t ht hW => ⟨⟨(1 : Int32), (o_1.2, (0 : Int32), (upd v_times (Int32.toNatClampNeg x1) x2)), rfl, ⟨h8, h7⟩, by rw [ht]; exact hP, va_K.moved hW.alike hK, hD⟩, hS.F ht⟩) hS.2.2 dX5_times_61
          · replace hf := (if_neg c_6).symm.trans hf
            exact w_X5_times_46 C0 hK o_1.2 v_kept v_times hf _ _ hP hD hS ls (lv_sub hl [] rfl)
set_option maxHeartbeats 4000000 in
set_option maxRecDepth 100000 in
theorem w_X5_times_0 {p : Program} {l : Launch} {e : Env} {s : State} {m : MethodId} {args : Array Value} {below : List Frame} {meth : Method} {c : Code} {A : Nat → Prop} {dC : Nat → ClassId} {dI : Nat → Nat → Nat} {cB cI cJ cZ : ClassId} {a_this a_times a_bits a_colours a_cube a_laid a_takes a_choice a_isChosen a_column a_next a_barredAt a_ways a_own a_goes a_rowGoes a_mark a_count a_colour : Nat} {v_columns : Int32} {v_needed : Int32} {v_rows : Int32} {v_cubes : Int32} {v_placements : Int32} {v_taken : Int32} {v_chosen : Int32} {v_nodes : Int32} {v_found : Int32} {v_isSpent : Int32} {v_told : Int32} {v_turns : Int32} {v_toldNodes : Int32} {out : Int32 × Int32 × Int32 × (Nat → Int32)} (C0 : Cx RX5 cX5_times (some .boolean) 3 wsX5_times p s m args meth c A) (hK : va_K (dC, dI) vwCl (tysG cB cI cJ cZ) s)  : g_X5_times_0 p l e s m args below meth c A dC dI cB cI cJ cZ a_this a_times a_bits a_colours a_cube a_laid a_takes a_choice a_isChosen a_column a_next a_barredAt a_ways a_own a_goes a_rowGoes a_mark a_count a_colour v_columns v_needed v_rows v_cubes v_placements v_taken v_chosen v_nodes v_found v_isSpent v_told v_turns v_toldNodes out (f_X5_times v_columns v_needed v_taken ) := by
  obtain ⟨hx, hb, hr, hml, hown, hts, hlocks, hA⟩ := id C0
  intro v_thrown v_kept v_times x1 x2 hf H locs hP hD hS ls hl
  replace hf : (((f_X5_isColumn v_columns x1).bind (fun o_8 =>
  if o_8.1 = 0 then
  (f_X5_times_15 v_columns v_needed v_taken v_thrown v_kept v_times x1 x2 (1 : Int32) (1 : Int32))
  else
  (f_X5_times_15 v_columns v_needed v_taken v_thrown v_kept v_times x1 x2 (0 : Int32) (1 : Int32)))) : Option (Int32 × Int32 × Int32 × (Nat → Int32))) = some out := hf
  refine lv_aload_n hx hb dX5_times_0 rfl (lv_at hl 0 rfl) ?_
  refine lv_iconst (v := 1) hx hb dX5_times_1 (by decide) ?_
  refine lv_aload_n hx hb dX5_times_2 rfl (lv_at hl 0 rfl) ?_
  refine lv_iload_n hx hb dX5_times_3 rfl (lv_at hl 1 rfl) ?_
  obtain ⟨o_8, ho_8, hf⟩ := gd_bd hf
  have hPc := hP.sub (ws' := ws_X5_isColumn cB cI cJ cZ a_this a_times a_bits a_colours a_cube a_laid a_takes a_choice a_isChosen a_column a_next a_barredAt a_ways a_own a_goes a_rowGoes a_mark a_count a_colour v_thrown v_columns v_needed v_rows v_cubes v_placements v_taken v_chosen v_nodes v_found v_isSpent v_told v_kept v_turns v_toldNodes) [0] rfl
  have hDc := hD.sub (ws' := ws_X5_isColumn cB cI cJ cZ a_this a_times a_bits a_colours a_cube a_laid a_takes a_choice a_isChosen a_column a_next a_barredAt a_ways a_own a_goes a_rowGoes a_mark a_count a_colour v_thrown v_columns v_needed v_rows v_cubes v_placements v_taken v_chosen v_nodes v_found v_isSpent v_told v_kept v_turns v_toldNodes) [0] (by decide) rfl
  have hFc := va_free (wc := ws_X5_isColumn cB cI cJ cZ a_this a_times a_bits a_colours a_cube a_laid a_takes a_choice a_isChosen a_column a_next a_barredAt a_ways a_own a_goes a_rowGoes a_mark a_count a_colour v_thrown v_columns v_needed v_rows v_cubes v_placements v_taken v_chosen v_nodes v_found v_isSpent v_told v_kept v_turns v_toldNodes) hD hS hA [0] rfl
  refine va_calli (va_runV (As := [.int x1]) (rest := [.int (1 : Int32), .ref a_this]) ⟨hx, hb, hml, hown, hts⟩ (c_X5_isColumn l dC dI cB cI cJ cZ a_this a_times a_bits a_colours a_cube a_laid a_takes a_choice a_isChosen a_column a_next a_barredAt a_ways a_own a_goes a_rowGoes a_mark a_count a_colour H.size v_thrown v_columns v_needed v_rows v_cubes v_placements v_taken v_chosen v_nodes v_found v_isSpent v_told v_kept v_turns v_toldNodes x1 o_8 ho_8) (cwV 1 hts gX5_times_X5_isColumn rfl rfl rfl ⟨rfl, nd_X5_isColumn⟩ ⟨Nat.le_of_ble_eq_true rfl, Nat.le_of_ble_eq_true rfl⟩) ⟨fun a U g mk q => by obtain ⟨q0, q1, qP, qK, qD⟩ := q; exact ⟨q0, q1, qP, va_K.moved (u := U) (U := U.calling g mk a) (Vm.Alike.refl U.vm) qK, qD⟩, va_recv hK hPc (ci := 6) (q0 := 0) rfl rfl, fun U hU hW => ⟨rfl, by rw [hU], by rw [hU]; exact hPc, va_K.moved hW.alike hK, hDc.weaken (fun _ _ _ _ => trivial)⟩⟩ rfl rfl hl.1 rfl (lv_room (Nat.le_of_ble_eq_true rfl)) dX5_times_4 ⟨Nat.le_of_ble_eq_true rfl, Nat.le_of_ble_eq_true rfl⟩) hS (fun q _ h => hFc q h) hFc (fun r_8 u_8 t H1 locs ht hvm hw hB hz1 hk1 hS => ?_)
  obtain ⟨rfl, rfl⟩ := hw
  obtain ⟨hP1, hK1, hD1⟩ := hB
  rw [ht] at hP1
  obtain ⟨hP, hD⟩ := va_join (wr := [(a_times, .inl (cI, 24, .inl v_times))]) (w1 := ws_X5_isColumn cB cI cJ cZ a_this a_times a_bits a_colours a_cube a_laid a_takes a_choice a_isChosen a_column a_next a_barredAt a_ways a_own a_goes a_rowGoes a_mark a_count a_colour v_thrown v_columns v_needed v_rows v_cubes v_placements v_taken v_chosen v_nodes v_found v_isSpent v_told v_kept v_turns v_toldNodes) hP hD [0] [1] rfl rfl (by decide) (by decide) hk1 hFc hP1 hD1
  generalize H1 = H at hP hS ⊢
  have hP : va_P (dC, dI) vwCl (ws_X5_times cB cI cJ cZ a_this a_times a_bits a_colours a_cube a_laid a_takes a_choice a_isChosen a_column a_next a_barredAt a_ways a_own a_goes a_rowGoes a_mark a_count a_colour v_thrown v_columns v_needed v_rows v_cubes v_placements v_taken v_chosen v_nodes v_found v_isSpent v_told v_kept v_turns v_toldNodes v_times) H := hP.sub [1, 0] rfl
  have hD : va_D A (ws_X5_times cB cI cJ cZ a_this a_times a_bits a_colours a_cube a_laid a_takes a_choice a_isChosen a_column a_next a_barredAt a_ways a_own a_goes a_rowGoes a_mark a_count a_colour v_thrown v_columns v_needed v_rows v_cubes v_placements v_taken v_chosen v_nodes v_found v_isSpent v_told v_kept v_turns v_toldNodes v_times) := hD.sub [1, 0] (by decide) rfl
  refine lv_if_ne (tgt := 14) hx hb dX5_times_7 (by decide) (fun c_9 => ?_) (fun c_9 => ?_)
  · replace hf := (if_neg c_9).symm.trans hf
    refine lv_iconst (v := 0) hx hb dX5_times_14 (by decide) ?_
    exact w_X5_times_15 C0 hK v_thrown v_kept v_times x1 x2 (0 : Int32) (1 : Int32) hf _ _ hP hD hS ls (lv_sub hl [0, 1, 2] rfl)
  · replace hf := (if_pos c_9).symm.trans hf
    refine lv_iconst (v := 1) hx hb dX5_times_10 (by decide) ?_
    refine lv_goto (tgt := 15) hx hb dX5_times_11 (by decide) ?_
    exact w_X5_times_15 C0 hK v_thrown v_kept v_times x1 x2 (1 : Int32) (1 : Int32) hf _ _ hP hD hS ls (lv_sub hl [0, 1, 2] rfl)
theorem nd_X5_times : yX5_times.cls ≠ "java/lang/invoke/MethodHandle" ∧ yX5_times.cls ≠ "java/lang/invoke/VarHandle" ∧ (parseMethodDescriptor yX5_times.desc).map (fun d => d.parameters.length) = some 2 := by decide +kernel
set_option maxHeartbeats 4000000 in
set_option maxRecDepth 100000 in
theorem c_X5_times (l : Launch) (dC : Nat → ClassId) (dI : Nat → Nat → Nat) (cB cI cJ cZ : ClassId) (a_this a_times a_bits a_colours a_cube a_laid a_takes a_choice a_isChosen a_column a_next a_barredAt a_ways a_own a_goes a_rowGoes a_mark a_count a_colour : Nat) (sz : Nat) (v_thrown : Int32) (v_columns : Int32) (v_needed : Int32) (v_rows : Int32) (v_cubes : Int32) (v_placements : Int32) (v_taken : Int32) (v_chosen : Int32) (v_nodes : Int32) (v_found : Int32) (v_isSpent : Int32) (v_told : Int32) (v_kept : Int32) (v_turns : Int32) (v_toldNodes : Int32) (v_times : (Nat → Int32)) (x1 : Int32) (x2 : Int32) (out : Int32 × Int32 × Int32 × (Nat → Int32)) (hf : f_X5_times v_columns v_needed v_taken v_thrown v_kept v_times x1 x2 = some out) : Met l yX5_times wsX5_times rm_X5_times (va_Pc [.ref a_this, .int x1, .int x2] (fun U => U.heap.size = sz ∧ va_P (dC, dI) vwCl (ws_X5_times cB cI cJ cZ a_this a_times a_bits a_colours a_cube a_laid a_takes a_choice a_isChosen a_column a_next a_barredAt a_ways a_own a_goes a_rowGoes a_mark a_count a_colour v_thrown v_columns v_needed v_rows v_cubes v_placements v_taken v_chosen v_nodes v_found v_isSpent v_told v_kept v_turns v_toldNodes v_times) U.heap ∧ va_K (dC, dI) vwCl (tysG cB cI cJ cZ) U ∧ va_D (fun _ => True) (ws_X5_times cB cI cJ cZ a_this a_times a_bits a_colours a_cube a_laid a_takes a_choice a_isChosen a_column a_next a_barredAt a_ways a_own a_goes a_rowGoes a_mark a_count a_colour v_thrown v_columns v_needed v_rows v_cubes v_placements v_taken v_chosen v_nodes v_found v_isSpent v_told v_kept v_turns v_toldNodes v_times))) (qc_X5_times (va_A (ws_X5_times cB cI cJ cZ a_this a_times a_bits a_colours a_cube a_laid a_takes a_choice a_isChosen a_column a_next a_barredAt a_ways a_own a_goes a_rowGoes a_mark a_count a_colour v_thrown v_columns v_needed v_rows v_cubes v_placements v_taken v_chosen v_nodes v_found v_isSpent v_told v_kept v_turns v_toldNodes v_times) sz) dC dI cB cI cJ cZ a_this a_times a_bits a_colours a_cube a_laid a_takes a_choice a_isChosen a_column a_next a_barredAt a_ways a_own a_goes a_rowGoes a_mark a_count a_colour v_columns v_needed v_rows v_cubes v_placements v_taken v_chosen v_nodes v_found v_isSpent v_told v_turns v_toldNodes out) 0 0 (va_A (ws_X5_times cB cI cJ cZ a_this a_times a_bits a_colours a_cube a_laid a_takes a_choice a_isChosen a_column a_next a_barredAt a_ways a_own a_goes a_rowGoes a_mark a_count a_colour v_thrown v_columns v_needed v_rows v_cubes v_placements v_taken v_chosen v_nodes v_found v_isSpent v_told v_kept v_turns v_toldNodes v_times) sz) := by
  refine Met.ofW (cc := cX5_times) (maxL := 3) (ret := (some .boolean)) (by decide) rfl ?_
  intro p e s m args below meth c s₁ B hml hv
  obtain ⟨rfl, hsz, hP, hK, hD0⟩ := hv
  subst hsz
  have hD := hD0.self (sz := s.heap.size)
  generalize hAe : va_A (ws_X5_times cB cI cJ cZ a_this a_times a_bits a_colours a_cube a_laid a_takes a_choice a_isChosen a_column a_next a_barredAt a_ways a_own a_goes a_rowGoes a_mark a_count a_colour v_thrown v_columns v_needed v_rows v_cubes v_placements v_taken v_chosen v_nodes v_found v_isSpent v_told v_kept v_turns v_toldNodes v_times) s.heap.size = A at hD ⊢
  have hA : ∀ q : Nat, s.heap.size ≤ q → A q := fun q h => by rw [← hAe]; exact Or.inr h
  have hl := lv_entry ([.ref a_this, .int x1, .int x2]) (n := 3) (Nat.le_of_ble_eq_true rfl)
  rw [lg_entry_eq]
  generalize (lg_sl ([.ref a_this, .int x1, .int x2]) ++ List.replicate (3 - (lg_sl ([.ref a_this, .int x1, .int x2])).length) Slot.unset).toArray = ls at hl ⊢
  have hl : lv_has ls 3 [(0, .ref a_this), (1, .int x1), (2, .int x2)] := hl
  exact w_X5_times_0 ⟨B.exec, B.bytes, B.returns, hml, findClass_of_methodNamed B.named, atoms_spec (ws := wsX5_times) B.pre, B.notSynchronized, hA⟩ hK v_thrown v_kept v_times x1 x2 hf _ _ hP hD va_S.rf ls (lv_sub hl [0, 1, 2] rfl)
-- X5.addRow(I)I: 37 instructions
theorem in_X5_addRow_X5 : ∀ w ∈ wsX50, w ∈ wsX5_addRow := by decide +kernel
abbrev ws_X5_addRow (cB cI cJ cZ : ClassId) (a_this a_bits a_colours a_times a_cube a_laid a_takes a_choice a_isChosen a_column a_next a_barredAt a_ways a_own a_goes a_rowGoes a_mark a_count a_colour : Nat) (v_thrown : Int32) (v_columns : Int32) (v_needed : Int32) (v_rows : Int32) (v_cubes : Int32) (v_placements : Int32) (v_taken : Int32) (v_chosen : Int32) (v_nodes : Int32) (v_found : Int32) (v_isSpent : Int32) (v_told : Int32) (v_kept : Int32) (v_turns : Int32) (v_toldNodes : Int32) (v_bits : (Nat → Int32)) (v_colours : (Nat → Int32)) : va_W := [(a_this, .inr (6, [.int v_thrown, .int v_columns, .int v_needed, .ref a_times, .int v_rows, .ref a_bits, .ref a_colours, .int v_cubes, .ref a_cube, .ref a_laid, .int v_placements, .int v_taken, .ref a_takes, .int v_chosen, .ref a_choice, .ref a_isChosen, .ref a_column, .ref a_next, .ref a_barredAt, .int v_nodes, .int v_found, .int v_isSpent, .int v_told, .int v_kept, .ref a_ways, .ref a_own, .int v_turns, .ref a_goes, .ref a_rowGoes, .ref a_mark, .ref a_count, .ref a_colour, .int v_toldNodes])), (a_bits, .inl (cI, 60, .inl v_bits)), (a_colours, .inl (cI, 1440, .inl v_colours))]
abbrev rm_X5_addRow : Room := { frames := 0, cells := 0, slots := 0, locals := 0 }
theorem lk_X5_addRow_f76 : Cond.fieldLink RX5 76 "LinkedCoversModel" "rows" "I" ∈ wsX5_addRow := by decide +kernel
theorem lk_X5_addRow_f90 : Cond.fieldLink RX5 90 "LinkedCoversModel" "kept" "I" ∈ wsX5_addRow := by decide +kernel
theorem lk_X5_addRow_f16 : Cond.fieldLink RX5 16 "LinkedCoversModel" "colours" "[I" ∈ wsX5_addRow := by decide +kernel
theorem lk_X5_addRow_f13 : Cond.fieldLink RX5 13 "LinkedCoversModel" "bits" "[I" ∈ wsX5_addRow := by decide +kernel
def f_X5_addRow_12   : Nat → Int32 → Int32 → (Nat → Int32) → (Nat → Int32) → Int32 → Option (Int32 × Int32 × Int32 × (Nat → Int32) × (Nat → Int32))
  | 0 => fun _ _ _ _ _ => none
  | n + 1 => fun v_rows v_kept v_bits v_colours x2 => if (24 : Int32) ≤ x2 then
  (some ((((v_rows + (1 : Int32)) - (1 : Int32)), ((v_rows + (1 : Int32)), (0 : Int32), v_bits, v_colours))))
  else
  (if ((((24 : Int32) * v_rows) + x2) < 0 ∨ 1440 ≤ Int32.toNatClampNeg (((24 : Int32) * v_rows) + x2)) then none else
  f_X5_addRow_12 n v_rows v_kept v_bits (upd v_colours (Int32.toNatClampNeg (((24 : Int32) * v_rows) + x2)) (0 : Int32)) (x2 + 1))
def f_X5_addRow   (v_rows : Int32) (v_kept : Int32) (v_bits : (Nat → Int32)) (v_colours : (Nat → Int32)) (x1 : Int32) : Option (Int32 × Int32 × Int32 × (Nat → Int32) × (Nat → Int32)) :=
  if (v_rows < 0 ∨ 60 ≤ Int32.toNatClampNeg v_rows) then none else
  f_X5_addRow_12 1000000 v_rows v_kept (upd v_bits (Int32.toNatClampNeg v_rows) x1) v_colours (0 : Int32)
abbrev qc_X5_addRow (A : Nat → Prop) (dC : Nat → ClassId) (dI : Nat → Nat → Nat) (cB cI cJ cZ : ClassId) (a_this a_bits a_colours a_times a_cube a_laid a_takes a_choice a_isChosen a_column a_next a_barredAt a_ways a_own a_goes a_rowGoes a_mark a_count a_colour : Nat) (v_thrown : Int32) (v_columns : Int32) (v_needed : Int32) (v_cubes : Int32) (v_placements : Int32) (v_taken : Int32) (v_chosen : Int32) (v_nodes : Int32) (v_found : Int32) (v_isSpent : Int32) (v_told : Int32) (v_turns : Int32) (v_toldNodes : Int32) (out : Int32 × Int32 × Int32 × (Nat → Int32) × (Nat → Int32)) : Array Value → State → Outcome → State → Prop := va_Qi (fun (r : Int32) (u : Int32 × Int32 × (Nat → Int32) × (Nat → Int32)) => r = out.1 ∧ u = out.2) (fun (u : Int32 × Int32 × (Nat → Int32) × (Nat → Int32)) (t : State) => va_P (dC, dI) vwCl (ws_X5_addRow cB cI cJ cZ a_this a_bits a_colours a_times a_cube a_laid a_takes a_choice a_isChosen a_column a_next a_barredAt a_ways a_own a_goes a_rowGoes a_mark a_count a_colour v_thrown v_columns v_needed u.1 v_cubes v_placements v_taken v_chosen v_nodes v_found v_isSpent v_told u.2.1 v_turns v_toldNodes u.2.2.1 u.2.2.2) t.heap ∧ va_K (dC, dI) vwCl (tysG cB cI cJ cZ) t ∧ va_D A (ws_X5_addRow cB cI cJ cZ a_this a_bits a_colours a_times a_cube a_laid a_takes a_choice a_isChosen a_column a_next a_barredAt a_ways a_own a_goes a_rowGoes a_mark a_count a_colour v_thrown v_columns v_needed u.1 v_cubes v_placements v_taken v_chosen v_nodes v_found v_isSpent v_told u.2.1 v_turns v_toldNodes u.2.2.1 u.2.2.2)) A
abbrev g_X5_addRow_12 (p : Program) (l : Launch) (e : Env) (s : State) (m : MethodId) (args : Array Value) (below : List Frame) (meth : Method) (c : Code) (A : Nat → Prop) (dC : Nat → ClassId) (dI : Nat → Nat → Nat) (cB cI cJ cZ : ClassId) (a_this a_bits a_colours a_times a_cube a_laid a_takes a_choice a_isChosen a_column a_next a_barredAt a_ways a_own a_goes a_rowGoes a_mark a_count a_colour : Nat) (v_thrown : Int32) (v_columns : Int32) (v_needed : Int32) (v_cubes : Int32) (v_placements : Int32) (v_taken : Int32) (v_chosen : Int32) (v_nodes : Int32) (v_found : Int32) (v_isSpent : Int32) (v_told : Int32) (v_turns : Int32) (v_toldNodes : Int32) (out : Int32 × Int32 × Int32 × (Nat → Int32) × (Nat → Int32)) (k : Int32 → Int32 → (Nat → Int32) → (Nat → Int32) → Int32 → Option (Int32 × Int32 × Int32 × (Nat → Int32) × (Nat → Int32))) : Prop := ∀ (v_rows : Int32) (v_kept : Int32) (v_bits : (Nat → Int32)) (v_colours : (Nat → Int32)) (x2 : Int32), k v_rows v_kept v_bits v_colours x2 = some out → ∀ (H : Heap) (locs : List Loc), va_P (dC, dI) vwCl (ws_X5_addRow cB cI cJ cZ a_this a_bits a_colours a_times a_cube a_laid a_takes a_choice a_isChosen a_column a_next a_barredAt a_ways a_own a_goes a_rowGoes a_mark a_count a_colour v_thrown v_columns v_needed v_rows v_cubes v_placements v_taken v_chosen v_nodes v_found v_isSpent v_told v_kept v_turns v_toldNodes v_bits v_colours) H → va_D A (ws_X5_addRow cB cI cJ cZ a_this a_bits a_colours a_times a_cube a_laid a_takes a_choice a_isChosen a_column a_next a_barredAt a_ways a_own a_goes a_rowGoes a_mark a_count a_colour v_thrown v_columns v_needed v_rows v_cubes v_placements v_taken v_chosen v_nodes v_found v_isSpent v_told v_kept v_turns v_toldNodes v_bits v_colours) → va_S A s.heap H locs → ∀ (ls : Array Slot), lv_has ls 3 [(0, .ref a_this), (2, .int x2)] → W p l e (headSpec wsX5_addRow rm_X5_addRow).room s m args below meth c H locs 0 0 (MQ below (qc_X5_addRow A dC dI cB cI cJ cZ a_this a_bits a_colours a_times a_cube a_laid a_takes a_choice a_isChosen a_column a_next a_barredAt a_ways a_own a_goes a_rowGoes a_mark a_count a_colour v_thrown v_columns v_needed v_cubes v_placements v_taken v_chosen v_nodes v_found v_isSpent v_told v_turns v_toldNodes out) args s 0 0 A) (F0 m 12 ls [])
abbrev g_X5_addRow_0 (p : Program) (l : Launch) (e : Env) (s : State) (m : MethodId) (args : Array Value) (below : List Frame) (meth : Method) (c : Code) (A : Nat → Prop) (dC : Nat → ClassId) (dI : Nat → Nat → Nat) (cB cI cJ cZ : ClassId) (a_this a_bits a_colours a_times a_cube a_laid a_takes a_choice a_isChosen a_column a_next a_barredAt a_ways a_own a_goes a_rowGoes a_mark a_count a_colour : Nat) (v_thrown : Int32) (v_columns : Int32) (v_needed : Int32) (v_cubes : Int32) (v_placements : Int32) (v_taken : Int32) (v_chosen : Int32) (v_nodes : Int32) (v_found : Int32) (v_isSpent : Int32) (v_told : Int32) (v_turns : Int32) (v_toldNodes : Int32) (out : Int32 × Int32 × Int32 × (Nat → Int32) × (Nat → Int32)) (k : Int32 → Int32 → (Nat → Int32) → (Nat → Int32) → Int32 → Option (Int32 × Int32 × Int32 × (Nat → Int32) × (Nat → Int32))) : Prop := ∀ (v_rows : Int32) (v_kept : Int32) (v_bits : (Nat → Int32)) (v_colours : (Nat → Int32)) (x1 : Int32), k v_rows v_kept v_bits v_colours x1 = some out → ∀ (H : Heap) (locs : List Loc), va_P (dC, dI) vwCl (ws_X5_addRow cB cI cJ cZ a_this a_bits a_colours a_times a_cube a_laid a_takes a_choice a_isChosen a_column a_next a_barredAt a_ways a_own a_goes a_rowGoes a_mark a_count a_colour v_thrown v_columns v_needed v_rows v_cubes v_placements v_taken v_chosen v_nodes v_found v_isSpent v_told v_kept v_turns v_toldNodes v_bits v_colours) H → va_D A (ws_X5_addRow cB cI cJ cZ a_this a_bits a_colours a_times a_cube a_laid a_takes a_choice a_isChosen a_column a_next a_barredAt a_ways a_own a_goes a_rowGoes a_mark a_count a_colour v_thrown v_columns v_needed v_rows v_cubes v_placements v_taken v_chosen v_nodes v_found v_isSpent v_told v_kept v_turns v_toldNodes v_bits v_colours) → va_S A s.heap H locs → ∀ (ls : Array Slot), lv_has ls 3 [(0, .ref a_this), (1, .int x1)] → W p l e (headSpec wsX5_addRow rm_X5_addRow).room s m args below meth c H locs 0 0 (MQ below (qc_X5_addRow A dC dI cB cI cJ cZ a_this a_bits a_colours a_times a_cube a_laid a_takes a_choice a_isChosen a_column a_next a_barredAt a_ways a_own a_goes a_rowGoes a_mark a_count a_colour v_thrown v_columns v_needed v_cubes v_placements v_taken v_chosen v_nodes v_found v_isSpent v_told v_turns v_toldNodes out) args s 0 0 A) (F0 m 0 ls [])
set_option maxHeartbeats 4000000 in
set_option maxRecDepth 100000 in
theorem w_X5_addRow_12 {p : Program} {l : Launch} {e : Env} {s : State} {m : MethodId} {args : Array Value} {below : List Frame} {meth : Method} {c : Code} {A : Nat → Prop} {dC : Nat → ClassId} {dI : Nat → Nat → Nat} {cB cI cJ cZ : ClassId} {a_this a_bits a_colours a_times a_cube a_laid a_takes a_choice a_isChosen a_column a_next a_barredAt a_ways a_own a_goes a_rowGoes a_mark a_count a_colour : Nat} {v_thrown : Int32} {v_columns : Int32} {v_needed : Int32} {v_cubes : Int32} {v_placements : Int32} {v_taken : Int32} {v_chosen : Int32} {v_nodes : Int32} {v_found : Int32} {v_isSpent : Int32} {v_told : Int32} {v_turns : Int32} {v_toldNodes : Int32} {out : Int32 × Int32 × Int32 × (Nat → Int32) × (Nat → Int32)} (C0 : Cx RX5 cX5_addRow (some .int) 3 wsX5_addRow p s m args meth c A) (hK : va_K (dC, dI) vwCl (tysG cB cI cJ cZ) s)  : ∀ n : Nat, g_X5_addRow_12 p l e s m args below meth c A dC dI cB cI cJ cZ a_this a_bits a_colours a_times a_cube a_laid a_takes a_choice a_isChosen a_column a_next a_barredAt a_ways a_own a_goes a_rowGoes a_mark a_count a_colour v_thrown v_columns v_needed v_cubes v_placements v_taken v_chosen v_nodes v_found v_isSpent v_told v_turns v_toldNodes out (f_X5_addRow_12   n) := by
  obtain ⟨hx, hb, hr, hml, hown, hts, hlocks, hA⟩ := id C0
  intro n
  induction n with
  | zero =>
    intro v_rows v_kept v_bits v_colours x2 hf H locs hP hD hS ls hl
    exact nomatch (show (none : Option (Int32 × Int32 × Int32 × (Nat → Int32) × (Nat → Int32))) = some out from hf)
  | succ n ih =>
    intro v_rows v_kept v_bits v_colours x2 hf H locs hP hD hS ls hl
    replace hf : ((if (24 : Int32) ≤ x2 then
  (some ((((v_rows + (1 : Int32)) - (1 : Int32)), ((v_rows + (1 : Int32)), (0 : Int32), v_bits, v_colours))))
  else
  (if ((((24 : Int32) * v_rows) + x2) < 0 ∨ 1440 ≤ Int32.toNatClampNeg (((24 : Int32) * v_rows) + x2)) then none else
  f_X5_addRow_12 n v_rows v_kept v_bits (upd v_colours (Int32.toNatClampNeg (((24 : Int32) * v_rows) + x2)) (0 : Int32)) (x2 + 1))) : Option (Int32 × Int32 × Int32 × (Nat → Int32) × (Nat → Int32))) = some out := hf
    refine lv_iload_n hx hb dX5_addRow_12 rfl (lv_at hl 1 rfl) ?_
    refine lv_bipush (v := 24) hx hb dX5_addRow_13 (by decide) ?_
    refine lv_icmp_ge (tgt := 39) hx hb dX5_addRow_15 (by decide) (fun c_1 => ?_) (fun c_1 => ?_)
    · replace hf := (if_pos c_1).symm.trans hf
      refine lv_aload_n hx hb dX5_addRow_39 rfl (lv_at hl 0 rfl) ?_
      refine lv_dup hx hb dX5_addRow_40 rfl ?_
      refine va_get (D := (dC, dI)) (ci := 6) (v := .int v_rows) (C := RX5) (T := TX5) (N := 33) hx hb hts in_X5_addRow_X5 hown hK hP 0 rfl rfl 4 (by decide) (hts (.fieldLink RX5 76 "LinkedCoversModel" "rows" "I") lk_X5_addRow_f76) (fun _ h9 => h9) rfl dX5_addRow_41 ?_
      refine lv_iconst (v := 1) hx hb dX5_addRow_44 (by decide) ?_
      refine lv_iadd hx hb dX5_addRow_45 ?_
      refine va_put (D := (dC, dI)) (ci := 6) (v := .int (v_rows + (1 : Int32))) (ty := .int) (C := RX5) (T := TX5) (N := 33) hx hb hts in_X5_addRow_X5 tyX5 tyX5_ok nmX5 hown hK hP hD hS 0 rfl rfl 4 (by decide) (hts (.fieldLink RX5 76 "LinkedCoversModel" "rows" "I") lk_X5_addRow_f76) (fun _ h9 => h9) rfl (by decide +kernel) rfl rfl (Nat.le_of_ble_eq_true rfl) dX5_addRow_46 (fun H locs hP hD hS => ?_)
      have hP : va_P (dC, dI) vwCl (ws_X5_addRow cB cI cJ cZ a_this a_bits a_colours a_times a_cube a_laid a_takes a_choice a_isChosen a_column a_next a_barredAt a_ways a_own a_goes a_rowGoes a_mark a_count a_colour v_thrown v_columns v_needed (v_rows + (1 : Int32)) v_cubes v_placements v_taken v_chosen v_nodes v_found v_isSpent v_told v_kept v_turns v_toldNodes v_bits v_colours) H := hP
      have hD : va_D A (ws_X5_addRow cB cI cJ cZ a_this a_bits a_colours a_times a_cube a_laid a_takes a_choice a_isChosen a_column a_next a_barredAt a_ways a_own a_goes a_rowGoes a_mark a_count a_colour v_thrown v_columns v_needed (v_rows + (1 : Int32)) v_cubes v_placements v_taken v_chosen v_nodes v_found v_isSpent v_told v_kept v_turns v_toldNodes v_bits v_colours) := hD
      refine lv_aload_n hx hb dX5_addRow_49 rfl (lv_at hl 0 rfl) ?_
      refine lv_iconst (v := 0) hx hb dX5_addRow_50 (by decide) ?_
      refine va_put (D := (dC, dI)) (ci := 6) (v := .int (0 : Int32)) (ty := .int) (C := RX5) (T := TX5) (N := 33) hx hb hts in_X5_addRow_X5 tyX5 tyX5_ok nmX5 hown hK hP hD hS 0 rfl rfl 23 (by decide) (hts (.fieldLink RX5 90 "LinkedCoversModel" "kept" "I") lk_X5_addRow_f90) (fun _ h9 => h9) rfl (by decide +kernel) rfl rfl (Nat.le_of_ble_eq_true rfl) dX5_addRow_51 (fun H locs hP hD hS => ?_)
      have hP : va_P (dC, dI) vwCl (ws_X5_addRow cB cI cJ cZ a_this a_bits a_colours a_times a_cube a_laid a_takes a_choice a_isChosen a_column a_next a_barredAt a_ways a_own a_goes a_rowGoes a_mark a_count a_colour v_thrown v_columns v_needed (v_rows + (1 : Int32)) v_cubes v_placements v_taken v_chosen v_nodes v_found v_isSpent v_told (0 : Int32) v_turns v_toldNodes v_bits v_colours) H := hP
      have hD : va_D A (ws_X5_addRow cB cI cJ cZ a_this a_bits a_colours a_times a_cube a_laid a_takes a_choice a_isChosen a_column a_next a_barredAt a_ways a_own a_goes a_rowGoes a_mark a_count a_colour v_thrown v_columns v_needed (v_rows + (1 : Int32)) v_cubes v_placements v_taken v_chosen v_nodes v_found v_isSpent v_told (0 : Int32) v_turns v_toldNodes v_bits v_colours) := hD
      refine lv_aload_n hx hb dX5_addRow_54 rfl (lv_at hl 0 rfl) ?_
      refine va_get (D := (dC, dI)) (ci := 6) (v := .int (v_rows + (1 : Int32))) (C := RX5) (T := TX5) (N := 33) hx hb hts in_X5_addRow_X5 hown hK hP 0 rfl rfl 4 (by decide) (hts (.fieldLink RX5 76 "LinkedCoversModel" "rows" "I") lk_X5_addRow_f76) (fun _ h9 => h9) rfl dX5_addRow_55 ?_
      refine lv_iconst (v := 1) hx hb dX5_addRow_58 (by decide) ?_
      refine lv_isub hx hb dX5_addRow_59 ?_
      have h9 := Option.some.inj hf
      have h8 := congrArg Prod.fst h9
      have h7 := congrArg Prod.snd h9
      exact W.iret (v := ((v_rows + (1 : Int32)) - (1 : Int32))) hx hb hr (fun t ht hW => ⟨⟨((v_rows + (1 : Int32)) - (1 : Int32)), ((v_rows + (1 : Int32)), (0 : Int32), v_bits, v_colours), rfl, ⟨h8, h7⟩, by rw [ht]; exact hP, va_K.moved hW.alike hK, hD⟩, hS.F ht⟩) hS.2.2 dX5_addRow_60
    · replace hf := (if_neg c_1).symm.trans hf
      refine lv_aload_n hx hb dX5_addRow_18 rfl (lv_at hl 0 rfl) ?_
      refine va_get (D := (dC, dI)) (ci := 6) (v := .ref a_colours) (C := RX5) (T := TX5) (N := 33) hx hb hts in_X5_addRow_X5 hown hK hP 0 rfl rfl 6 (by decide) (hts (.fieldLink RX5 16 "LinkedCoversModel" "colours" "[I") lk_X5_addRow_f16) (fun _ h9 => h9) rfl dX5_addRow_19 ?_
      refine lv_bipush (v := 24) hx hb dX5_addRow_22 (by decide) ?_
      refine lv_aload_n hx hb dX5_addRow_24 rfl (lv_at hl 0 rfl) ?_
      refine va_get (D := (dC, dI)) (ci := 6) (v := .int v_rows) (C := RX5) (T := TX5) (N := 33) hx hb hts in_X5_addRow_X5 hown hK hP 0 rfl rfl 4 (by decide) (hts (.fieldLink RX5 76 "LinkedCoversModel" "rows" "I") lk_X5_addRow_f76) (fun _ h9 => h9) rfl dX5_addRow_25 ?_
      refine lv_imul hx hb dX5_addRow_28 ?_
      refine lv_iload_n hx hb dX5_addRow_29 rfl (lv_at hl 1 rfl) ?_
      refine lv_iadd hx hb dX5_addRow_30 ?_
      refine lv_iconst (v := 0) hx hb dX5_addRow_31 (by decide) ?_
      obtain ⟨h_2, hf⟩ := gd_ck hf
      refine va_iast hx hb hK hP hD hS 2 1 rfl rfl h_2 dX5_addRow_32 (fun H locs hP hD hS => ?_)
      have hP : va_P (dC, dI) vwCl (ws_X5_addRow cB cI cJ cZ a_this a_bits a_colours a_times a_cube a_laid a_takes a_choice a_isChosen a_column a_next a_barredAt a_ways a_own a_goes a_rowGoes a_mark a_count a_colour v_thrown v_columns v_needed v_rows v_cubes v_placements v_taken v_chosen v_nodes v_found v_isSpent v_told v_kept v_turns v_toldNodes v_bits (upd v_colours (Int32.toNatClampNeg (((24 : Int32) * v_rows) + x2)) (0 : Int32))) H := hP
      have hD : va_D A (ws_X5_addRow cB cI cJ cZ a_this a_bits a_colours a_times a_cube a_laid a_takes a_choice a_isChosen a_column a_next a_barredAt a_ways a_own a_goes a_rowGoes a_mark a_count a_colour v_thrown v_columns v_needed v_rows v_cubes v_placements v_taken v_chosen v_nodes v_found v_isSpent v_told v_kept v_turns v_toldNodes v_bits (upd v_colours (Int32.toNatClampNeg (((24 : Int32) * v_rows) + x2)) (0 : Int32))) := hD
      refine lv_iinc (v := (x2 + 1)) (lv' := [(2, .int (x2 + 1)), (0, .ref a_this)]) hx hb dX5_addRow_33 hl (k := 1) rfl rfl (by decide) rfl (fun ls hl => ?_)
      refine lv_goto (tgt := 12) hx hb dX5_addRow_36 (by decide) ?_
      exact ih v_rows v_kept v_bits (upd v_colours (Int32.toNatClampNeg (((24 : Int32) * v_rows) + x2)) (0 : Int32)) (x2 + 1) hf _ _ hP hD hS ls (lv_sub hl [1, 0] rfl)
set_option maxHeartbeats 4000000 in
set_option maxRecDepth 100000 in
theorem w_X5_addRow_0 {p : Program} {l : Launch} {e : Env} {s : State} {m : MethodId} {args : Array Value} {below : List Frame} {meth : Method} {c : Code} {A : Nat → Prop} {dC : Nat → ClassId} {dI : Nat → Nat → Nat} {cB cI cJ cZ : ClassId} {a_this a_bits a_colours a_times a_cube a_laid a_takes a_choice a_isChosen a_column a_next a_barredAt a_ways a_own a_goes a_rowGoes a_mark a_count a_colour : Nat} {v_thrown : Int32} {v_columns : Int32} {v_needed : Int32} {v_cubes : Int32} {v_placements : Int32} {v_taken : Int32} {v_chosen : Int32} {v_nodes : Int32} {v_found : Int32} {v_isSpent : Int32} {v_told : Int32} {v_turns : Int32} {v_toldNodes : Int32} {out : Int32 × Int32 × Int32 × (Nat → Int32) × (Nat → Int32)} (C0 : Cx RX5 cX5_addRow (some .int) 3 wsX5_addRow p s m args meth c A) (hK : va_K (dC, dI) vwCl (tysG cB cI cJ cZ) s)  : g_X5_addRow_0 p l e s m args below meth c A dC dI cB cI cJ cZ a_this a_bits a_colours a_times a_cube a_laid a_takes a_choice a_isChosen a_column a_next a_barredAt a_ways a_own a_goes a_rowGoes a_mark a_count a_colour v_thrown v_columns v_needed v_cubes v_placements v_taken v_chosen v_nodes v_found v_isSpent v_told v_turns v_toldNodes out (f_X5_addRow  ) := by
  obtain ⟨hx, hb, hr, hml, hown, hts, hlocks, hA⟩ := id C0
  intro v_rows v_kept v_bits v_colours x1 hf H locs hP hD hS ls hl
  replace hf : ((if (v_rows < 0 ∨ 60 ≤ Int32.toNatClampNeg v_rows) then none else
  f_X5_addRow_12 1000000 v_rows v_kept (upd v_bits (Int32.toNatClampNeg v_rows) x1) v_colours (0 : Int32)) : Option (Int32 × Int32 × Int32 × (Nat → Int32) × (Nat → Int32))) = some out := hf
  refine lv_aload_n hx hb dX5_addRow_0 rfl (lv_at hl 0 rfl) ?_
  refine va_get (D := (dC, dI)) (ci := 6) (v := .ref a_bits) (C := RX5) (T := TX5) (N := 33) hx hb hts in_X5_addRow_X5 hown hK hP 0 rfl rfl 5 (by decide) (hts (.fieldLink RX5 13 "LinkedCoversModel" "bits" "[I") lk_X5_addRow_f13) (fun _ h9 => h9) rfl dX5_addRow_1 ?_
  refine lv_aload_n hx hb dX5_addRow_4 rfl (lv_at hl 0 rfl) ?_
  refine va_get (D := (dC, dI)) (ci := 6) (v := .int v_rows) (C := RX5) (T := TX5) (N := 33) hx hb hts in_X5_addRow_X5 hown hK hP 0 rfl rfl 4 (by decide) (hts (.fieldLink RX5 76 "LinkedCoversModel" "rows" "I") lk_X5_addRow_f76) (fun _ h9 => h9) rfl dX5_addRow_5 ?_
  refine lv_iload_n hx hb dX5_addRow_8 rfl (lv_at hl 1 rfl) ?_
  obtain ⟨h_3, hf⟩ := gd_ck hf
  refine va_iast hx hb hK hP hD hS 1 1 rfl rfl h_3 dX5_addRow_9 (fun H locs hP hD hS => ?_)
  have hP : va_P (dC, dI) vwCl (ws_X5_addRow cB cI cJ cZ a_this a_bits a_colours a_times a_cube a_laid a_takes a_choice a_isChosen a_column a_next a_barredAt a_ways a_own a_goes a_rowGoes a_mark a_count a_colour v_thrown v_columns v_needed v_rows v_cubes v_placements v_taken v_chosen v_nodes v_found v_isSpent v_told v_kept v_turns v_toldNodes (upd v_bits (Int32.toNatClampNeg v_rows) x1) v_colours) H := hP
  have hD : va_D A (ws_X5_addRow cB cI cJ cZ a_this a_bits a_colours a_times a_cube a_laid a_takes a_choice a_isChosen a_column a_next a_barredAt a_ways a_own a_goes a_rowGoes a_mark a_count a_colour v_thrown v_columns v_needed v_rows v_cubes v_placements v_taken v_chosen v_nodes v_found v_isSpent v_told v_kept v_turns v_toldNodes (upd v_bits (Int32.toNatClampNeg v_rows) x1) v_colours) := hD
  refine lv_iconst (v := 0) hx hb dX5_addRow_10 (by decide) ?_
  refine lv_istore_n (lv' := [(2, .int (0 : Int32)), (0, .ref a_this), (1, .int x1)]) hx hb dX5_addRow_11 rfl hl (by decide) rfl (fun ls hl => ?_)
  exact w_X5_addRow_12 C0 hK 1000000 v_rows v_kept (upd v_bits (Int32.toNatClampNeg v_rows) x1) v_colours (0 : Int32) hf _ _ hP hD hS ls (lv_sub hl [1, 0] rfl)
theorem nd_X5_addRow : yX5_addRow.cls ≠ "java/lang/invoke/MethodHandle" ∧ yX5_addRow.cls ≠ "java/lang/invoke/VarHandle" ∧ (parseMethodDescriptor yX5_addRow.desc).map (fun d => d.parameters.length) = some 1 := by decide +kernel
set_option maxHeartbeats 4000000 in
set_option maxRecDepth 100000 in
theorem c_X5_addRow (l : Launch) (dC : Nat → ClassId) (dI : Nat → Nat → Nat) (cB cI cJ cZ : ClassId) (a_this a_bits a_colours a_times a_cube a_laid a_takes a_choice a_isChosen a_column a_next a_barredAt a_ways a_own a_goes a_rowGoes a_mark a_count a_colour : Nat) (sz : Nat) (v_thrown : Int32) (v_columns : Int32) (v_needed : Int32) (v_rows : Int32) (v_cubes : Int32) (v_placements : Int32) (v_taken : Int32) (v_chosen : Int32) (v_nodes : Int32) (v_found : Int32) (v_isSpent : Int32) (v_told : Int32) (v_kept : Int32) (v_turns : Int32) (v_toldNodes : Int32) (v_bits : (Nat → Int32)) (v_colours : (Nat → Int32)) (x1 : Int32) (out : Int32 × Int32 × Int32 × (Nat → Int32) × (Nat → Int32)) (hf : f_X5_addRow  v_rows v_kept v_bits v_colours x1 = some out) : Met l yX5_addRow wsX5_addRow rm_X5_addRow (va_Pc [.ref a_this, .int x1] (fun U => U.heap.size = sz ∧ va_P (dC, dI) vwCl (ws_X5_addRow cB cI cJ cZ a_this a_bits a_colours a_times a_cube a_laid a_takes a_choice a_isChosen a_column a_next a_barredAt a_ways a_own a_goes a_rowGoes a_mark a_count a_colour v_thrown v_columns v_needed v_rows v_cubes v_placements v_taken v_chosen v_nodes v_found v_isSpent v_told v_kept v_turns v_toldNodes v_bits v_colours) U.heap ∧ va_K (dC, dI) vwCl (tysG cB cI cJ cZ) U ∧ va_D (fun _ => True) (ws_X5_addRow cB cI cJ cZ a_this a_bits a_colours a_times a_cube a_laid a_takes a_choice a_isChosen a_column a_next a_barredAt a_ways a_own a_goes a_rowGoes a_mark a_count a_colour v_thrown v_columns v_needed v_rows v_cubes v_placements v_taken v_chosen v_nodes v_found v_isSpent v_told v_kept v_turns v_toldNodes v_bits v_colours))) (qc_X5_addRow (va_A (ws_X5_addRow cB cI cJ cZ a_this a_bits a_colours a_times a_cube a_laid a_takes a_choice a_isChosen a_column a_next a_barredAt a_ways a_own a_goes a_rowGoes a_mark a_count a_colour v_thrown v_columns v_needed v_rows v_cubes v_placements v_taken v_chosen v_nodes v_found v_isSpent v_told v_kept v_turns v_toldNodes v_bits v_colours) sz) dC dI cB cI cJ cZ a_this a_bits a_colours a_times a_cube a_laid a_takes a_choice a_isChosen a_column a_next a_barredAt a_ways a_own a_goes a_rowGoes a_mark a_count a_colour v_thrown v_columns v_needed v_cubes v_placements v_taken v_chosen v_nodes v_found v_isSpent v_told v_turns v_toldNodes out) 0 0 (va_A (ws_X5_addRow cB cI cJ cZ a_this a_bits a_colours a_times a_cube a_laid a_takes a_choice a_isChosen a_column a_next a_barredAt a_ways a_own a_goes a_rowGoes a_mark a_count a_colour v_thrown v_columns v_needed v_rows v_cubes v_placements v_taken v_chosen v_nodes v_found v_isSpent v_told v_kept v_turns v_toldNodes v_bits v_colours) sz) := by
  refine Met.ofW (cc := cX5_addRow) (maxL := 3) (ret := (some .int)) (by decide) rfl ?_
  intro p e s m args below meth c s₁ B hml hv
  obtain ⟨rfl, hsz, hP, hK, hD0⟩ := hv
  subst hsz
  have hD := hD0.self (sz := s.heap.size)
  generalize hAe : va_A (ws_X5_addRow cB cI cJ cZ a_this a_bits a_colours a_times a_cube a_laid a_takes a_choice a_isChosen a_column a_next a_barredAt a_ways a_own a_goes a_rowGoes a_mark a_count a_colour v_thrown v_columns v_needed v_rows v_cubes v_placements v_taken v_chosen v_nodes v_found v_isSpent v_told v_kept v_turns v_toldNodes v_bits v_colours) s.heap.size = A at hD ⊢
  have hA : ∀ q : Nat, s.heap.size ≤ q → A q := fun q h => by rw [← hAe]; exact Or.inr h
  have hl := lv_entry ([.ref a_this, .int x1]) (n := 3) (Nat.le_of_ble_eq_true rfl)
  rw [lg_entry_eq]
  generalize (lg_sl ([.ref a_this, .int x1]) ++ List.replicate (3 - (lg_sl ([.ref a_this, .int x1])).length) Slot.unset).toArray = ls at hl ⊢
  have hl : lv_has ls 3 [(0, .ref a_this), (1, .int x1)] := hl
  exact w_X5_addRow_0 ⟨B.exec, B.bytes, B.returns, hml, findClass_of_methodNamed B.named, atoms_spec (ws := wsX5_addRow) B.pre, B.notSynchronized, hA⟩ hK v_rows v_kept v_bits v_colours x1 hf _ _ hP hD va_S.rf ls (lv_sub hl [0, 1] rfl)
-- X5.row()I: 16 instructions
theorem in_X5_row_X5 : ∀ w ∈ wsX50, w ∈ wsX5_row := by decide +kernel
abbrev ws_X5_row (cB cI cJ cZ : ClassId) (a_this a_bits a_colours a_times a_cube a_laid a_takes a_choice a_isChosen a_column a_next a_barredAt a_ways a_own a_goes a_rowGoes a_mark a_count a_colour : Nat) (v_thrown : Int32) (v_columns : Int32) (v_needed : Int32) (v_rows : Int32) (v_cubes : Int32) (v_placements : Int32) (v_taken : Int32) (v_chosen : Int32) (v_nodes : Int32) (v_found : Int32) (v_isSpent : Int32) (v_told : Int32) (v_kept : Int32) (v_turns : Int32) (v_toldNodes : Int32) (v_bits : (Nat → Int32)) (v_colours : (Nat → Int32)) : va_W := [(a_this, .inr (6, [.int v_thrown, .int v_columns, .int v_needed, .ref a_times, .int v_rows, .ref a_bits, .ref a_colours, .int v_cubes, .ref a_cube, .ref a_laid, .int v_placements, .int v_taken, .ref a_takes, .int v_chosen, .ref a_choice, .ref a_isChosen, .ref a_column, .ref a_next, .ref a_barredAt, .int v_nodes, .int v_found, .int v_isSpent, .int v_told, .int v_kept, .ref a_ways, .ref a_own, .int v_turns, .ref a_goes, .ref a_rowGoes, .ref a_mark, .ref a_count, .ref a_colour, .int v_toldNodes])), (a_bits, .inl (cI, 60, .inl v_bits)), (a_colours, .inl (cI, 1440, .inl v_colours))]
abbrev rm_X5_row : Room := { frames := 1, cells := 0, slots := 0, locals := 22 }
theorem lk_X5_row_f73 : Cond.fieldLink RX5 73 "LinkedCoversModel" "thrown" "I" ∈ wsX5_row := by decide +kernel
theorem lk_X5_row_f76 : Cond.fieldLink RX5 76 "LinkedCoversModel" "rows" "I" ∈ wsX5_row := by decide +kernel
theorem lk_X5_row_f87 : Cond.fieldLink RX5 87 "LinkedCoversModel" "taken" "I" ∈ wsX5_row := by decide +kernel
def f_X5_row_30 (v_taken : Int32)  (v_thrown : Int32) (v_rows : Int32) (v_kept : Int32) (v_bits : (Nat → Int32)) (v_colours : (Nat → Int32)) (y0 : Int32) : Option (Int32 × Int32 × Int32 × Int32 × (Nat → Int32) × (Nat → Int32)) :=
  some ((y0, (v_thrown, v_rows, v_kept, v_bits, v_colours)))
def f_X5_row_21 (v_taken : Int32)  (v_thrown : Int32) (v_rows : Int32) (v_kept : Int32) (v_bits : (Nat → Int32)) (v_colours : (Nat → Int32)) : Option (Int32 × Int32 × Int32 × Int32 × (Nat → Int32) × (Nat → Int32)) :=
  f_X5_row_30 v_taken v_thrown v_rows v_kept v_bits v_colours (-1 : Int32)
def f_X5_row (v_taken : Int32)  (v_thrown : Int32) (v_rows : Int32) (v_kept : Int32) (v_bits : (Nat → Int32)) (v_colours : (Nat → Int32)) : Option (Int32 × Int32 × Int32 × Int32 × (Nat → Int32) × (Nat → Int32)) :=
  if v_rows = (60 : Int32) then
  (f_X5_row_21 v_taken (0 : Int32) v_rows v_kept v_bits v_colours)
  else
  (if v_taken ≤ 0 then
  ((f_X5_addRow v_rows v_kept v_bits v_colours (0 : Int32)).bind (fun o_3 =>
  f_X5_row_30 v_taken (0 : Int32) o_3.2.1 o_3.2.2.1 o_3.2.2.2.1 o_3.2.2.2.2 o_3.1))
  else
  (f_X5_row_21 v_taken (0 : Int32) v_rows v_kept v_bits v_colours))
abbrev qc_X5_row (A : Nat → Prop) (dC : Nat → ClassId) (dI : Nat → Nat → Nat) (cB cI cJ cZ : ClassId) (a_this a_bits a_colours a_times a_cube a_laid a_takes a_choice a_isChosen a_column a_next a_barredAt a_ways a_own a_goes a_rowGoes a_mark a_count a_colour : Nat) (v_columns : Int32) (v_needed : Int32) (v_cubes : Int32) (v_placements : Int32) (v_taken : Int32) (v_chosen : Int32) (v_nodes : Int32) (v_found : Int32) (v_isSpent : Int32) (v_told : Int32) (v_turns : Int32) (v_toldNodes : Int32) (out : Int32 × Int32 × Int32 × Int32 × (Nat → Int32) × (Nat → Int32)) : Array Value → State → Outcome → State → Prop := va_Qi (fun (r : Int32) (u : Int32 × Int32 × Int32 × (Nat → Int32) × (Nat → Int32)) => r = out.1 ∧ u = out.2) (fun (u : Int32 × Int32 × Int32 × (Nat → Int32) × (Nat → Int32)) (t : State) => va_P (dC, dI) vwCl (ws_X5_row cB cI cJ cZ a_this a_bits a_colours a_times a_cube a_laid a_takes a_choice a_isChosen a_column a_next a_barredAt a_ways a_own a_goes a_rowGoes a_mark a_count a_colour u.1 v_columns v_needed u.2.1 v_cubes v_placements v_taken v_chosen v_nodes v_found v_isSpent v_told u.2.2.1 v_turns v_toldNodes u.2.2.2.1 u.2.2.2.2) t.heap ∧ va_K (dC, dI) vwCl (tysG cB cI cJ cZ) t ∧ va_D A (ws_X5_row cB cI cJ cZ a_this a_bits a_colours a_times a_cube a_laid a_takes a_choice a_isChosen a_column a_next a_barredAt a_ways a_own a_goes a_rowGoes a_mark a_count a_colour u.1 v_columns v_needed u.2.1 v_cubes v_placements v_taken v_chosen v_nodes v_found v_isSpent v_told u.2.2.1 v_turns v_toldNodes u.2.2.2.1 u.2.2.2.2)) A
abbrev g_X5_row_30 (p : Program) (l : Launch) (e : Env) (s : State) (m : MethodId) (args : Array Value) (below : List Frame) (meth : Method) (c : Code) (A : Nat → Prop) (dC : Nat → ClassId) (dI : Nat → Nat → Nat) (cB cI cJ cZ : ClassId) (a_this a_bits a_colours a_times a_cube a_laid a_takes a_choice a_isChosen a_column a_next a_barredAt a_ways a_own a_goes a_rowGoes a_mark a_count a_colour : Nat) (v_columns : Int32) (v_needed : Int32) (v_cubes : Int32) (v_placements : Int32) (v_taken : Int32) (v_chosen : Int32) (v_nodes : Int32) (v_found : Int32) (v_isSpent : Int32) (v_told : Int32) (v_turns : Int32) (v_toldNodes : Int32) (out : Int32 × Int32 × Int32 × Int32 × (Nat → Int32) × (Nat → Int32)) (k : Int32 → Int32 → Int32 → (Nat → Int32) → (Nat → Int32) → Int32 → Option (Int32 × Int32 × Int32 × Int32 × (Nat → Int32) × (Nat → Int32))) : Prop := ∀ (v_thrown : Int32) (v_rows : Int32) (v_kept : Int32) (v_bits : (Nat → Int32)) (v_colours : (Nat → Int32)) (y0 : Int32), k v_thrown v_rows v_kept v_bits v_colours y0 = some out → ∀ (H : Heap) (locs : List Loc), va_P (dC, dI) vwCl (ws_X5_row cB cI cJ cZ a_this a_bits a_colours a_times a_cube a_laid a_takes a_choice a_isChosen a_column a_next a_barredAt a_ways a_own a_goes a_rowGoes a_mark a_count a_colour v_thrown v_columns v_needed v_rows v_cubes v_placements v_taken v_chosen v_nodes v_found v_isSpent v_told v_kept v_turns v_toldNodes v_bits v_colours) H → va_D A (ws_X5_row cB cI cJ cZ a_this a_bits a_colours a_times a_cube a_laid a_takes a_choice a_isChosen a_column a_next a_barredAt a_ways a_own a_goes a_rowGoes a_mark a_count a_colour v_thrown v_columns v_needed v_rows v_cubes v_placements v_taken v_chosen v_nodes v_found v_isSpent v_told v_kept v_turns v_toldNodes v_bits v_colours) → va_S A s.heap H locs → ∀ (ls : Array Slot), lv_has ls 1 [] → W p l e (headSpec wsX5_row rm_X5_row).room s m args below meth c H locs 0 0 (MQ below (qc_X5_row A dC dI cB cI cJ cZ a_this a_bits a_colours a_times a_cube a_laid a_takes a_choice a_isChosen a_column a_next a_barredAt a_ways a_own a_goes a_rowGoes a_mark a_count a_colour v_columns v_needed v_cubes v_placements v_taken v_chosen v_nodes v_found v_isSpent v_told v_turns v_toldNodes out) args s 0 0 A) (F0 m 30 ls [.int y0])
abbrev g_X5_row_21 (p : Program) (l : Launch) (e : Env) (s : State) (m : MethodId) (args : Array Value) (below : List Frame) (meth : Method) (c : Code) (A : Nat → Prop) (dC : Nat → ClassId) (dI : Nat → Nat → Nat) (cB cI cJ cZ : ClassId) (a_this a_bits a_colours a_times a_cube a_laid a_takes a_choice a_isChosen a_column a_next a_barredAt a_ways a_own a_goes a_rowGoes a_mark a_count a_colour : Nat) (v_columns : Int32) (v_needed : Int32) (v_cubes : Int32) (v_placements : Int32) (v_taken : Int32) (v_chosen : Int32) (v_nodes : Int32) (v_found : Int32) (v_isSpent : Int32) (v_told : Int32) (v_turns : Int32) (v_toldNodes : Int32) (out : Int32 × Int32 × Int32 × Int32 × (Nat → Int32) × (Nat → Int32)) (k : Int32 → Int32 → Int32 → (Nat → Int32) → (Nat → Int32) → Option (Int32 × Int32 × Int32 × Int32 × (Nat → Int32) × (Nat → Int32))) : Prop := ∀ (v_thrown : Int32) (v_rows : Int32) (v_kept : Int32) (v_bits : (Nat → Int32)) (v_colours : (Nat → Int32)), k v_thrown v_rows v_kept v_bits v_colours = some out → ∀ (H : Heap) (locs : List Loc), va_P (dC, dI) vwCl (ws_X5_row cB cI cJ cZ a_this a_bits a_colours a_times a_cube a_laid a_takes a_choice a_isChosen a_column a_next a_barredAt a_ways a_own a_goes a_rowGoes a_mark a_count a_colour v_thrown v_columns v_needed v_rows v_cubes v_placements v_taken v_chosen v_nodes v_found v_isSpent v_told v_kept v_turns v_toldNodes v_bits v_colours) H → va_D A (ws_X5_row cB cI cJ cZ a_this a_bits a_colours a_times a_cube a_laid a_takes a_choice a_isChosen a_column a_next a_barredAt a_ways a_own a_goes a_rowGoes a_mark a_count a_colour v_thrown v_columns v_needed v_rows v_cubes v_placements v_taken v_chosen v_nodes v_found v_isSpent v_told v_kept v_turns v_toldNodes v_bits v_colours) → va_S A s.heap H locs → ∀ (ls : Array Slot), lv_has ls 1 [] → W p l e (headSpec wsX5_row rm_X5_row).room s m args below meth c H locs 0 0 (MQ below (qc_X5_row A dC dI cB cI cJ cZ a_this a_bits a_colours a_times a_cube a_laid a_takes a_choice a_isChosen a_column a_next a_barredAt a_ways a_own a_goes a_rowGoes a_mark a_count a_colour v_columns v_needed v_cubes v_placements v_taken v_chosen v_nodes v_found v_isSpent v_told v_turns v_toldNodes out) args s 0 0 A) (F0 m 21 ls [])
abbrev g_X5_row_0 (p : Program) (l : Launch) (e : Env) (s : State) (m : MethodId) (args : Array Value) (below : List Frame) (meth : Method) (c : Code) (A : Nat → Prop) (dC : Nat → ClassId) (dI : Nat → Nat → Nat) (cB cI cJ cZ : ClassId) (a_this a_bits a_colours a_times a_cube a_laid a_takes a_choice a_isChosen a_column a_next a_barredAt a_ways a_own a_goes a_rowGoes a_mark a_count a_colour : Nat) (v_columns : Int32) (v_needed : Int32) (v_cubes : Int32) (v_placements : Int32) (v_taken : Int32) (v_chosen : Int32) (v_nodes : Int32) (v_found : Int32) (v_isSpent : Int32) (v_told : Int32) (v_turns : Int32) (v_toldNodes : Int32) (out : Int32 × Int32 × Int32 × Int32 × (Nat → Int32) × (Nat → Int32)) (k : Int32 → Int32 → Int32 → (Nat → Int32) → (Nat → Int32) → Option (Int32 × Int32 × Int32 × Int32 × (Nat → Int32) × (Nat → Int32))) : Prop := ∀ (v_thrown : Int32) (v_rows : Int32) (v_kept : Int32) (v_bits : (Nat → Int32)) (v_colours : (Nat → Int32)), k v_thrown v_rows v_kept v_bits v_colours = some out → ∀ (H : Heap) (locs : List Loc), va_P (dC, dI) vwCl (ws_X5_row cB cI cJ cZ a_this a_bits a_colours a_times a_cube a_laid a_takes a_choice a_isChosen a_column a_next a_barredAt a_ways a_own a_goes a_rowGoes a_mark a_count a_colour v_thrown v_columns v_needed v_rows v_cubes v_placements v_taken v_chosen v_nodes v_found v_isSpent v_told v_kept v_turns v_toldNodes v_bits v_colours) H → va_D A (ws_X5_row cB cI cJ cZ a_this a_bits a_colours a_times a_cube a_laid a_takes a_choice a_isChosen a_column a_next a_barredAt a_ways a_own a_goes a_rowGoes a_mark a_count a_colour v_thrown v_columns v_needed v_rows v_cubes v_placements v_taken v_chosen v_nodes v_found v_isSpent v_told v_kept v_turns v_toldNodes v_bits v_colours) → va_S A s.heap H locs → ∀ (ls : Array Slot), lv_has ls 1 [(0, .ref a_this)] → W p l e (headSpec wsX5_row rm_X5_row).room s m args below meth c H locs 0 0 (MQ below (qc_X5_row A dC dI cB cI cJ cZ a_this a_bits a_colours a_times a_cube a_laid a_takes a_choice a_isChosen a_column a_next a_barredAt a_ways a_own a_goes a_rowGoes a_mark a_count a_colour v_columns v_needed v_cubes v_placements v_taken v_chosen v_nodes v_found v_isSpent v_told v_turns v_toldNodes out) args s 0 0 A) (F0 m 0 ls [])
set_option maxHeartbeats 4000000 in
set_option maxRecDepth 100000 in
theorem w_X5_row_30 {p : Program} {l : Launch} {e : Env} {s : State} {m : MethodId} {args : Array Value} {below : List Frame} {meth : Method} {c : Code} {A : Nat → Prop} {dC : Nat → ClassId} {dI : Nat → Nat → Nat} {cB cI cJ cZ : ClassId} {a_this a_bits a_colours a_times a_cube a_laid a_takes a_choice a_isChosen a_column a_next a_barredAt a_ways a_own a_goes a_rowGoes a_mark a_count a_colour : Nat} {v_columns : Int32} {v_needed : Int32} {v_cubes : Int32} {v_placements : Int32} {v_taken : Int32} {v_chosen : Int32} {v_nodes : Int32} {v_found : Int32} {v_isSpent : Int32} {v_told : Int32} {v_turns : Int32} {v_toldNodes : Int32} {out : Int32 × Int32 × Int32 × Int32 × (Nat → Int32) × (Nat → Int32)} (C0 : Cx RX5 cX5_row (some .int) 1 wsX5_row p s m args meth c A) (hK : va_K (dC, dI) vwCl (tysG cB cI cJ cZ) s)  : g_X5_row_30 p l e s m args below meth c A dC dI cB cI cJ cZ a_this a_bits a_colours a_times a_cube a_laid a_takes a_choice a_isChosen a_column a_next a_barredAt a_ways a_own a_goes a_rowGoes a_mark a_count a_colour v_columns v_needed v_cubes v_placements v_taken v_chosen v_nodes v_found v_isSpent v_told v_turns v_toldNodes out (f_X5_row_30 v_taken ) := by
  obtain ⟨hx, hb, hr, hml, hown, hts, hlocks, hA⟩ := id C0
  intro v_thrown v_rows v_kept v_bits v_colours y0 hf H locs hP hD hS ls hl
  replace hf : ((some ((y0, (v_thrown, v_rows, v_kept, v_bits, v_colours)))) : Option (Int32 × Int32 × Int32 × Int32 × (Nat → Int32) × (Nat → Int32))) = some out := hf
  have h9 := Option.some.inj hf
  have h8 := congrArg Prod.fst h9
  have h7 := congrArg Prod.snd h9
  exact W.iret (v := y0) hx hb hr (fun t ht hW => ⟨⟨y0, (v_thrown, v_rows, v_kept, v_bits, v_colours), rfl, ⟨h8, h7⟩, by rw [ht]; exact hP, va_K.moved hW.alike hK, hD⟩, hS.F ht⟩) hS.2.2 dX5_row_30
set_option maxHeartbeats 4000000 in
set_option maxRecDepth 100000 in
theorem w_X5_row_21 {p : Program} {l : Launch} {e : Env} {s : State} {m : MethodId} {args : Array Value} {below : List Frame} {meth : Method} {c : Code} {A : Nat → Prop} {dC : Nat → ClassId} {dI : Nat → Nat → Nat} {cB cI cJ cZ : ClassId} {a_this a_bits a_colours a_times a_cube a_laid a_takes a_choice a_isChosen a_column a_next a_barredAt a_ways a_own a_goes a_rowGoes a_mark a_count a_colour : Nat} {v_columns : Int32} {v_needed : Int32} {v_cubes : Int32} {v_placements : Int32} {v_taken : Int32} {v_chosen : Int32} {v_nodes : Int32} {v_found : Int32} {v_isSpent : Int32} {v_told : Int32} {v_turns : Int32} {v_toldNodes : Int32} {out : Int32 × Int32 × Int32 × Int32 × (Nat → Int32) × (Nat → Int32)} (C0 : Cx RX5 cX5_row (some .int) 1 wsX5_row p s m args meth c A) (hK : va_K (dC, dI) vwCl (tysG cB cI cJ cZ) s)  : g_X5_row_21 p l e s m args below meth c A dC dI cB cI cJ cZ a_this a_bits a_colours a_times a_cube a_laid a_takes a_choice a_isChosen a_column a_next a_barredAt a_ways a_own a_goes a_rowGoes a_mark a_count a_colour v_columns v_needed v_cubes v_placements v_taken v_chosen v_nodes v_found v_isSpent v_told v_turns v_toldNodes out (f_X5_row_21 v_taken ) := by
  obtain ⟨hx, hb, hr, hml, hown, hts, hlocks, hA⟩ := id C0
  intro v_thrown v_rows v_kept v_bits v_colours hf H locs hP hD hS ls hl
  replace hf : ((f_X5_row_30 v_taken v_thrown v_rows v_kept v_bits v_colours (-1 : Int32)) : Option (Int32 × Int32 × Int32 × Int32 × (Nat → Int32) × (Nat → Int32))) = some out := hf
  refine lv_iconst (v := -1) hx hb dX5_row_21 (by decide) ?_
  refine lv_goto (tgt := 30) hx hb dX5_row_22 (by decide) ?_
  exact w_X5_row_30 C0 hK v_thrown v_rows v_kept v_bits v_colours (-1 : Int32) hf _ _ hP hD hS ls (lv_sub hl [] rfl)
set_option maxHeartbeats 4000000 in
set_option maxRecDepth 100000 in
theorem w_X5_row_0 {p : Program} {l : Launch} {e : Env} {s : State} {m : MethodId} {args : Array Value} {below : List Frame} {meth : Method} {c : Code} {A : Nat → Prop} {dC : Nat → ClassId} {dI : Nat → Nat → Nat} {cB cI cJ cZ : ClassId} {a_this a_bits a_colours a_times a_cube a_laid a_takes a_choice a_isChosen a_column a_next a_barredAt a_ways a_own a_goes a_rowGoes a_mark a_count a_colour : Nat} {v_columns : Int32} {v_needed : Int32} {v_cubes : Int32} {v_placements : Int32} {v_taken : Int32} {v_chosen : Int32} {v_nodes : Int32} {v_found : Int32} {v_isSpent : Int32} {v_told : Int32} {v_turns : Int32} {v_toldNodes : Int32} {out : Int32 × Int32 × Int32 × Int32 × (Nat → Int32) × (Nat → Int32)} (C0 : Cx RX5 cX5_row (some .int) 1 wsX5_row p s m args meth c A) (hK : va_K (dC, dI) vwCl (tysG cB cI cJ cZ) s)  : g_X5_row_0 p l e s m args below meth c A dC dI cB cI cJ cZ a_this a_bits a_colours a_times a_cube a_laid a_takes a_choice a_isChosen a_column a_next a_barredAt a_ways a_own a_goes a_rowGoes a_mark a_count a_colour v_columns v_needed v_cubes v_placements v_taken v_chosen v_nodes v_found v_isSpent v_told v_turns v_toldNodes out (f_X5_row v_taken ) := by
  obtain ⟨hx, hb, hr, hml, hown, hts, hlocks, hA⟩ := id C0
  intro v_thrown v_rows v_kept v_bits v_colours hf H locs hP hD hS ls hl
  replace hf : ((if v_rows = (60 : Int32) then
  (f_X5_row_21 v_taken (0 : Int32) v_rows v_kept v_bits v_colours)
  else
  (if v_taken ≤ 0 then
  ((f_X5_addRow v_rows v_kept v_bits v_colours (0 : Int32)).bind (fun o_3 =>
  f_X5_row_30 v_taken (0 : Int32) o_3.2.1 o_3.2.2.1 o_3.2.2.2.1 o_3.2.2.2.2 o_3.1))
  else
  (f_X5_row_21 v_taken (0 : Int32) v_rows v_kept v_bits v_colours))) : Option (Int32 × Int32 × Int32 × Int32 × (Nat → Int32) × (Nat → Int32))) = some out := hf
  refine lv_aload_n hx hb dX5_row_0 rfl (lv_at hl 0 rfl) ?_
  refine lv_iconst (v := 0) hx hb dX5_row_1 (by decide) ?_
  refine va_put (D := (dC, dI)) (ci := 6) (v := .int (0 : Int32)) (ty := .int) (C := RX5) (T := TX5) (N := 33) hx hb hts in_X5_row_X5 tyX5 tyX5_ok nmX5 hown hK hP hD hS 0 rfl rfl 0 (by decide) (hts (.fieldLink RX5 73 "LinkedCoversModel" "thrown" "I") lk_X5_row_f73) (fun _ h9 => h9) rfl (by decide +kernel) rfl rfl (Nat.le_of_ble_eq_true rfl) dX5_row_2 (fun H locs hP hD hS => ?_)
  have hP : va_P (dC, dI) vwCl (ws_X5_row cB cI cJ cZ a_this a_bits a_colours a_times a_cube a_laid a_takes a_choice a_isChosen a_column a_next a_barredAt a_ways a_own a_goes a_rowGoes a_mark a_count a_colour (0 : Int32) v_columns v_needed v_rows v_cubes v_placements v_taken v_chosen v_nodes v_found v_isSpent v_told v_kept v_turns v_toldNodes v_bits v_colours) H := hP
  have hD : va_D A (ws_X5_row cB cI cJ cZ a_this a_bits a_colours a_times a_cube a_laid a_takes a_choice a_isChosen a_column a_next a_barredAt a_ways a_own a_goes a_rowGoes a_mark a_count a_colour (0 : Int32) v_columns v_needed v_rows v_cubes v_placements v_taken v_chosen v_nodes v_found v_isSpent v_told v_kept v_turns v_toldNodes v_bits v_colours) := hD
  refine lv_aload_n hx hb dX5_row_5 rfl (lv_at hl 0 rfl) ?_
  refine va_get (D := (dC, dI)) (ci := 6) (v := .int v_rows) (C := RX5) (T := TX5) (N := 33) hx hb hts in_X5_row_X5 hown hK hP 0 rfl rfl 4 (by decide) (hts (.fieldLink RX5 76 "LinkedCoversModel" "rows" "I") lk_X5_row_f76) (fun _ h9 => h9) rfl dX5_row_6 ?_
  refine lv_bipush (v := 60) hx hb dX5_row_9 (by decide) ?_
  refine lv_icmp_eq (tgt := 21) hx hb dX5_row_11 (by decide) (fun c_1 => ?_) (fun c_1 => ?_)
  · replace hf := (if_pos c_1).symm.trans hf
    exact w_X5_row_21 C0 hK (0 : Int32) v_rows v_kept v_bits v_colours hf _ _ hP hD hS ls (lv_sub hl [] rfl)
  · replace hf := (if_neg c_1).symm.trans hf
    refine lv_aload_n hx hb dX5_row_14 rfl (lv_at hl 0 rfl) ?_
    refine va_get (D := (dC, dI)) (ci := 6) (v := .int v_taken) (C := RX5) (T := TX5) (N := 33) hx hb hts in_X5_row_X5 hown hK hP 0 rfl rfl 11 (by decide) (hts (.fieldLink RX5 87 "LinkedCoversModel" "taken" "I") lk_X5_row_f87) (fun _ h9 => h9) rfl dX5_row_15 ?_
    refine lv_if_le (tgt := 25) hx hb dX5_row_18 (by decide) (fun c_2 => ?_) (fun c_2 => ?_)
    · replace hf := (if_pos c_2).symm.trans hf
      refine lv_aload_n hx hb dX5_row_25 rfl (lv_at hl 0 rfl) ?_
      refine lv_iconst (v := 0) hx hb dX5_row_26 (by decide) ?_
      obtain ⟨o_3, ho_3, hf⟩ := gd_bd hf
      have hPc := hP.sub (ws' := ws_X5_addRow cB cI cJ cZ a_this a_bits a_colours a_times a_cube a_laid a_takes a_choice a_isChosen a_column a_next a_barredAt a_ways a_own a_goes a_rowGoes a_mark a_count a_colour (0 : Int32) v_columns v_needed v_rows v_cubes v_placements v_taken v_chosen v_nodes v_found v_isSpent v_told v_kept v_turns v_toldNodes v_bits v_colours) [0, 1, 2] rfl
      have hDc := hD.sub (ws' := ws_X5_addRow cB cI cJ cZ a_this a_bits a_colours a_times a_cube a_laid a_takes a_choice a_isChosen a_column a_next a_barredAt a_ways a_own a_goes a_rowGoes a_mark a_count a_colour (0 : Int32) v_columns v_needed v_rows v_cubes v_placements v_taken v_chosen v_nodes v_found v_isSpent v_told v_kept v_turns v_toldNodes v_bits v_colours) [0, 1, 2] (by decide) rfl
      have hFc := va_free (wc := ws_X5_addRow cB cI cJ cZ a_this a_bits a_colours a_times a_cube a_laid a_takes a_choice a_isChosen a_column a_next a_barredAt a_ways a_own a_goes a_rowGoes a_mark a_count a_colour (0 : Int32) v_columns v_needed v_rows v_cubes v_placements v_taken v_chosen v_nodes v_found v_isSpent v_told v_kept v_turns v_toldNodes v_bits v_colours) hD hS hA [0, 1, 2] rfl
      refine va_calli (va_runV (As := [.int (0 : Int32)]) (rest := []) ⟨hx, hb, hml, hown, hts⟩ (c_X5_addRow l dC dI cB cI cJ cZ a_this a_bits a_colours a_times a_cube a_laid a_takes a_choice a_isChosen a_column a_next a_barredAt a_ways a_own a_goes a_rowGoes a_mark a_count a_colour H.size (0 : Int32) v_columns v_needed v_rows v_cubes v_placements v_taken v_chosen v_nodes v_found v_isSpent v_told v_kept v_turns v_toldNodes v_bits v_colours (0 : Int32) o_3 ho_3) (cwV 1 hts gX5_row_X5_addRow rfl rfl rfl ⟨rfl, nd_X5_addRow⟩ ⟨Nat.le_of_ble_eq_true rfl, Nat.le_of_ble_eq_true rfl⟩) ⟨fun a U g mk q => by obtain ⟨q0, q1, qP, qK, qD⟩ := q; exact ⟨q0, q1, qP, va_K.moved (u := U) (U := U.calling g mk a) (Vm.Alike.refl U.vm) qK, qD⟩, va_recv hK hPc (ci := 6) (q0 := 0) rfl rfl, fun U hU hW => ⟨rfl, by rw [hU], by rw [hU]; exact hPc, va_K.moved hW.alike hK, hDc.weaken (fun _ _ _ _ => trivial)⟩⟩ rfl rfl hl.1 rfl (lv_room (Nat.le_of_ble_eq_true rfl)) dX5_row_27 ⟨Nat.le_of_ble_eq_true rfl, Nat.le_of_ble_eq_true rfl⟩) hS (fun q _ h => hFc q h) hFc (fun r_3 u_3 t H1 locs ht hvm hw hB hz1 hk1 hS => ?_)
      obtain ⟨rfl, rfl⟩ := hw
      obtain ⟨hP1, hK1, hD1⟩ := hB
      rw [ht] at hP1
      obtain ⟨hP, hD⟩ := va_join (wr := []) (w1 := ws_X5_addRow cB cI cJ cZ a_this a_bits a_colours a_times a_cube a_laid a_takes a_choice a_isChosen a_column a_next a_barredAt a_ways a_own a_goes a_rowGoes a_mark a_count a_colour (0 : Int32) v_columns v_needed o_3.2.1 v_cubes v_placements v_taken v_chosen v_nodes v_found v_isSpent v_told o_3.2.2.1 v_turns v_toldNodes o_3.2.2.2.1 o_3.2.2.2.2) hP hD [0, 1, 2] [] rfl rfl (by decide) (by decide) hk1 hFc hP1 hD1
      generalize H1 = H at hP hS ⊢
      have hP : va_P (dC, dI) vwCl (ws_X5_row cB cI cJ cZ a_this a_bits a_colours a_times a_cube a_laid a_takes a_choice a_isChosen a_column a_next a_barredAt a_ways a_own a_goes a_rowGoes a_mark a_count a_colour (0 : Int32) v_columns v_needed o_3.2.1 v_cubes v_placements v_taken v_chosen v_nodes v_found v_isSpent v_told o_3.2.2.1 v_turns v_toldNodes o_3.2.2.2.1 o_3.2.2.2.2) H := hP.sub [0, 1, 2] rfl
      have hD : va_D A (ws_X5_row cB cI cJ cZ a_this a_bits a_colours a_times a_cube a_laid a_takes a_choice a_isChosen a_column a_next a_barredAt a_ways a_own a_goes a_rowGoes a_mark a_count a_colour (0 : Int32) v_columns v_needed o_3.2.1 v_cubes v_placements v_taken v_chosen v_nodes v_found v_isSpent v_told o_3.2.2.1 v_turns v_toldNodes o_3.2.2.2.1 o_3.2.2.2.2) := hD.sub [0, 1, 2] (by decide) rfl
      exact w_X5_row_30 C0 hK (0 : Int32) o_3.2.1 o_3.2.2.1 o_3.2.2.2.1 o_3.2.2.2.2 o_3.1 hf _ _ hP hD hS ls (lv_sub hl [] rfl)
    · replace hf := (if_neg c_2).symm.trans hf
      exact w_X5_row_21 C0 hK (0 : Int32) v_rows v_kept v_bits v_colours hf _ _ hP hD hS ls (lv_sub hl [] rfl)
theorem nd_X5_row : yX5_row.cls ≠ "java/lang/invoke/MethodHandle" ∧ yX5_row.cls ≠ "java/lang/invoke/VarHandle" ∧ (parseMethodDescriptor yX5_row.desc).map (fun d => d.parameters.length) = some 0 := by decide +kernel
set_option maxHeartbeats 4000000 in
set_option maxRecDepth 100000 in
theorem c_X5_row (l : Launch) (dC : Nat → ClassId) (dI : Nat → Nat → Nat) (cB cI cJ cZ : ClassId) (a_this a_bits a_colours a_times a_cube a_laid a_takes a_choice a_isChosen a_column a_next a_barredAt a_ways a_own a_goes a_rowGoes a_mark a_count a_colour : Nat) (sz : Nat) (v_thrown : Int32) (v_columns : Int32) (v_needed : Int32) (v_rows : Int32) (v_cubes : Int32) (v_placements : Int32) (v_taken : Int32) (v_chosen : Int32) (v_nodes : Int32) (v_found : Int32) (v_isSpent : Int32) (v_told : Int32) (v_kept : Int32) (v_turns : Int32) (v_toldNodes : Int32) (v_bits : (Nat → Int32)) (v_colours : (Nat → Int32))  (out : Int32 × Int32 × Int32 × Int32 × (Nat → Int32) × (Nat → Int32)) (hf : f_X5_row v_taken v_thrown v_rows v_kept v_bits v_colours = some out) : Met l yX5_row wsX5_row rm_X5_row (va_Pc [.ref a_this] (fun U => U.heap.size = sz ∧ va_P (dC, dI) vwCl (ws_X5_row cB cI cJ cZ a_this a_bits a_colours a_times a_cube a_laid a_takes a_choice a_isChosen a_column a_next a_barredAt a_ways a_own a_goes a_rowGoes a_mark a_count a_colour v_thrown v_columns v_needed v_rows v_cubes v_placements v_taken v_chosen v_nodes v_found v_isSpent v_told v_kept v_turns v_toldNodes v_bits v_colours) U.heap ∧ va_K (dC, dI) vwCl (tysG cB cI cJ cZ) U ∧ va_D (fun _ => True) (ws_X5_row cB cI cJ cZ a_this a_bits a_colours a_times a_cube a_laid a_takes a_choice a_isChosen a_column a_next a_barredAt a_ways a_own a_goes a_rowGoes a_mark a_count a_colour v_thrown v_columns v_needed v_rows v_cubes v_placements v_taken v_chosen v_nodes v_found v_isSpent v_told v_kept v_turns v_toldNodes v_bits v_colours))) (qc_X5_row (va_A (ws_X5_row cB cI cJ cZ a_this a_bits a_colours a_times a_cube a_laid a_takes a_choice a_isChosen a_column a_next a_barredAt a_ways a_own a_goes a_rowGoes a_mark a_count a_colour v_thrown v_columns v_needed v_rows v_cubes v_placements v_taken v_chosen v_nodes v_found v_isSpent v_told v_kept v_turns v_toldNodes v_bits v_colours) sz) dC dI cB cI cJ cZ a_this a_bits a_colours a_times a_cube a_laid a_takes a_choice a_isChosen a_column a_next a_barredAt a_ways a_own a_goes a_rowGoes a_mark a_count a_colour v_columns v_needed v_cubes v_placements v_taken v_chosen v_nodes v_found v_isSpent v_told v_turns v_toldNodes out) 0 0 (va_A (ws_X5_row cB cI cJ cZ a_this a_bits a_colours a_times a_cube a_laid a_takes a_choice a_isChosen a_column a_next a_barredAt a_ways a_own a_goes a_rowGoes a_mark a_count a_colour v_thrown v_columns v_needed v_rows v_cubes v_placements v_taken v_chosen v_nodes v_found v_isSpent v_told v_kept v_turns v_toldNodes v_bits v_colours) sz) := by
  refine Met.ofW (cc := cX5_row) (maxL := 1) (ret := (some .int)) (by decide) rfl ?_
  intro p e s m args below meth c s₁ B hml hv
  obtain ⟨rfl, hsz, hP, hK, hD0⟩ := hv
  subst hsz
  have hD := hD0.self (sz := s.heap.size)
  generalize hAe : va_A (ws_X5_row cB cI cJ cZ a_this a_bits a_colours a_times a_cube a_laid a_takes a_choice a_isChosen a_column a_next a_barredAt a_ways a_own a_goes a_rowGoes a_mark a_count a_colour v_thrown v_columns v_needed v_rows v_cubes v_placements v_taken v_chosen v_nodes v_found v_isSpent v_told v_kept v_turns v_toldNodes v_bits v_colours) s.heap.size = A at hD ⊢
  have hA : ∀ q : Nat, s.heap.size ≤ q → A q := fun q h => by rw [← hAe]; exact Or.inr h
  have hl := lv_entry ([.ref a_this]) (n := 1) (Nat.le_of_ble_eq_true rfl)
  rw [lg_entry_eq]
  generalize (lg_sl ([.ref a_this]) ++ List.replicate (1 - (lg_sl ([.ref a_this])).length) Slot.unset).toArray = ls at hl ⊢
  have hl : lv_has ls 1 [(0, .ref a_this)] := hl
  exact w_X5_row_0 ⟨B.exec, B.bytes, B.returns, hml, findClass_of_methodNamed B.named, atoms_spec (ws := wsX5_row) B.pre, B.notSynchronized, hA⟩ hK v_thrown v_rows v_kept v_bits v_colours hf _ _ hP hD va_S.rf ls (lv_sub hl [0] rfl)
-- X5.entry(II)Z: 86 instructions
theorem in_X5_entry_X5 : ∀ w ∈ wsX50, w ∈ wsX5_entry := by decide +kernel
abbrev ws_X5_entry (cB cI cJ cZ : ClassId) (a_this a_bits a_colours a_times a_cube a_laid a_takes a_choice a_isChosen a_column a_next a_barredAt a_ways a_own a_goes a_rowGoes a_mark a_count a_colour : Nat) (v_thrown : Int32) (v_columns : Int32) (v_needed : Int32) (v_rows : Int32) (v_cubes : Int32) (v_placements : Int32) (v_taken : Int32) (v_chosen : Int32) (v_nodes : Int32) (v_found : Int32) (v_isSpent : Int32) (v_told : Int32) (v_kept : Int32) (v_turns : Int32) (v_toldNodes : Int32) (v_bits : (Nat → Int32)) (v_colours : (Nat → Int32)) : va_W := [(a_this, .inr (6, [.int v_thrown, .int v_columns, .int v_needed, .ref a_times, .int v_rows, .ref a_bits, .ref a_colours, .int v_cubes, .ref a_cube, .ref a_laid, .int v_placements, .int v_taken, .ref a_takes, .int v_chosen, .ref a_choice, .ref a_isChosen, .ref a_column, .ref a_next, .ref a_barredAt, .int v_nodes, .int v_found, .int v_isSpent, .int v_told, .int v_kept, .ref a_ways, .ref a_own, .int v_turns, .ref a_goes, .ref a_rowGoes, .ref a_mark, .ref a_count, .ref a_colour, .int v_toldNodes])), (a_bits, .inl (cI, 60, .inl v_bits)), (a_colours, .inl (cI, 1440, .inl v_colours))]
abbrev rm_X5_entry : Room := { frames := 1, cells := 0, slots := 0, locals := 22 }
theorem lk_X5_entry_f76 : Cond.fieldLink RX5 76 "LinkedCoversModel" "rows" "I" ∈ wsX5_entry := by decide +kernel
theorem lk_X5_entry_f87 : Cond.fieldLink RX5 87 "LinkedCoversModel" "taken" "I" ∈ wsX5_entry := by decide +kernel
theorem lk_X5_entry_f13 : Cond.fieldLink RX5 13 "LinkedCoversModel" "bits" "[I" ∈ wsX5_entry := by decide +kernel
theorem lk_X5_entry_f16 : Cond.fieldLink RX5 16 "LinkedCoversModel" "colours" "[I" ∈ wsX5_entry := by decide +kernel
theorem lk_X5_entry_f90 : Cond.fieldLink RX5 90 "LinkedCoversModel" "kept" "I" ∈ wsX5_entry := by decide +kernel
def f_X5_entry_44 (v_columns : Int32) (v_rows : Int32) (v_taken : Int32)  (v_thrown : Int32) (v_kept : Int32) (v_bits : (Nat → Int32)) (v_colours : (Nat → Int32)) : Option (Int32 × Int32 × Int32 × (Nat → Int32) × (Nat → Int32)) :=
  some (((0 : Int32), (v_thrown, v_kept, v_bits, v_colours)))
def f_X5_entry_93 (v_columns : Int32) (v_rows : Int32) (v_taken : Int32)  (v_thrown : Int32) (v_kept : Int32) (v_bits : (Nat → Int32)) (v_colours : (Nat → Int32)) : Option (Int32 × Int32 × Int32 × (Nat → Int32) × (Nat → Int32)) :=
  some (((0 : Int32), (v_thrown, v_kept, v_bits, v_colours)))
def f_X5_entry_38 (v_columns : Int32) (v_rows : Int32) (v_taken : Int32)  (v_thrown : Int32) (v_kept : Int32) (v_bits : (Nat → Int32)) (v_colours : (Nat → Int32)) (x1 : Int32) (x2 : Int32) (y0 : Int32) (y1 : Int32) : Option (Int32 × Int32 × Int32 × (Nat → Int32) × (Nat → Int32)) :=
  (f_X5_throwsIf v_thrown y1 y0).bind (fun o_1 =>
  if o_1.1 = 0 then
  (if v_rows = 0 then
  (f_X5_entry_93 v_columns v_rows v_taken o_1.2 v_kept v_bits v_colours)
  else
  (if 0 < v_taken then
  (f_X5_entry_93 v_columns v_rows v_taken o_1.2 v_kept v_bits v_colours)
  else
  ((f_X5_has v_bits (v_rows - (1 : Int32)) x1).bind (fun o_5 =>
  if o_5.1 = 0 then
  (if ((v_rows - (1 : Int32)) < 0 ∨ 60 ≤ Int32.toNatClampNeg (v_rows - (1 : Int32))) then none else
  (f_X5_countOf (v_bits (Int32.toNatClampNeg (v_rows - (1 : Int32))))).bind (fun o_8 =>
  if o_8.1 = (8 : Int32) then
  (f_X5_entry_93 v_columns v_rows v_taken o_1.2 v_kept v_bits v_colours)
  else
  (if ((v_rows - (1 : Int32)) < 0 ∨ 60 ≤ Int32.toNatClampNeg (v_rows - (1 : Int32))) then none else
  if ((v_rows - (1 : Int32)) < 0 ∨ 60 ≤ Int32.toNatClampNeg (v_rows - (1 : Int32))) then none else
  if ((((24 : Int32) * (v_rows - (1 : Int32))) + x1) < 0 ∨ 1440 ≤ Int32.toNatClampNeg (((24 : Int32) * (v_rows - (1 : Int32))) + x1)) then none else
  some (((1 : Int32), (o_1.2, (0 : Int32), (upd v_bits (Int32.toNatClampNeg (v_rows - (1 : Int32))) ((v_bits (Int32.toNatClampNeg (v_rows - (1 : Int32)))) ||| ((1 : Int32) <<< (x1 &&& 31)))), (upd v_colours (Int32.toNatClampNeg (((24 : Int32) * (v_rows - (1 : Int32))) + x1)) x2)))))))
  else
  (f_X5_entry_93 v_columns v_rows v_taken o_1.2 v_kept v_bits v_colours)))))
  else
  (f_X5_entry_44 v_columns v_rows v_taken o_1.2 v_kept v_bits v_colours))
def f_X5_entry_33 (v_columns : Int32) (v_rows : Int32) (v_taken : Int32)  (v_thrown : Int32) (v_kept : Int32) (v_bits : (Nat → Int32)) (v_colours : (Nat → Int32)) (x1 : Int32) (x2 : Int32) (y0 : Int32) : Option (Int32 × Int32 × Int32 × (Nat → Int32) × (Nat → Int32)) :=
  f_X5_entry_38 v_columns v_rows v_taken v_thrown v_kept v_bits v_colours x1 x2 (1 : Int32) y0
def f_X5_entry_15 (v_columns : Int32) (v_rows : Int32) (v_taken : Int32)  (v_thrown : Int32) (v_kept : Int32) (v_bits : (Nat → Int32)) (v_colours : (Nat → Int32)) (x1 : Int32) (x2 : Int32) (y0 : Int32) (y1 : Int32) : Option (Int32 × Int32 × Int32 × (Nat → Int32) × (Nat → Int32)) :=
  (f_X5_throwsIf v_thrown y1 y0).bind (fun o_13 =>
  if o_13.1 = 0 then
  (if x2 < 0 then
  (f_X5_entry_33 v_columns v_rows v_taken o_13.2 v_kept v_bits v_colours x1 x2 (2 : Int32))
  else
  (if x2 ≤ (7 : Int32) then
  (f_X5_entry_38 v_columns v_rows v_taken o_13.2 v_kept v_bits v_colours x1 x2 (0 : Int32) (2 : Int32))
  else
  (f_X5_entry_33 v_columns v_rows v_taken o_13.2 v_kept v_bits v_colours x1 x2 (2 : Int32))))
  else
  (f_X5_entry_44 v_columns v_rows v_taken o_13.2 v_kept v_bits v_colours))
def f_X5_entry (v_columns : Int32) (v_rows : Int32) (v_taken : Int32)  (v_thrown : Int32) (v_kept : Int32) (v_bits : (Nat → Int32)) (v_colours : (Nat → Int32)) (x1 : Int32) (x2 : Int32) : Option (Int32 × Int32 × Int32 × (Nat → Int32) × (Nat → Int32)) :=
  (f_X5_isColumn v_columns x1).bind (fun o_17 =>
  if o_17.1 = 0 then
  (f_X5_entry_15 v_columns v_rows v_taken v_thrown v_kept v_bits v_colours x1 x2 (1 : Int32) (1 : Int32))
  else
  (f_X5_entry_15 v_columns v_rows v_taken v_thrown v_kept v_bits v_colours x1 x2 (0 : Int32) (1 : Int32)))
abbrev qc_X5_entry (A : Nat → Prop) (dC : Nat → ClassId) (dI : Nat → Nat → Nat) (cB cI cJ cZ : ClassId) (a_this a_bits a_colours a_times a_cube a_laid a_takes a_choice a_isChosen a_column a_next a_barredAt a_ways a_own a_goes a_rowGoes a_mark a_count a_colour : Nat) (v_columns : Int32) (v_needed : Int32) (v_rows : Int32) (v_cubes : Int32) (v_placements : Int32) (v_taken : Int32) (v_chosen : Int32) (v_nodes : Int32) (v_found : Int32) (v_isSpent : Int32) (v_told : Int32) (v_turns : Int32) (v_toldNodes : Int32) (out : Int32 × Int32 × Int32 × (Nat → Int32) × (Nat → Int32)) : Array Value → State → Outcome → State → Prop := va_Qi (fun (r : Int32) (u : Int32 × Int32 × (Nat → Int32) × (Nat → Int32)) => r = out.1 ∧ u = out.2) (fun (u : Int32 × Int32 × (Nat → Int32) × (Nat → Int32)) (t : State) => va_P (dC, dI) vwCl (ws_X5_entry cB cI cJ cZ a_this a_bits a_colours a_times a_cube a_laid a_takes a_choice a_isChosen a_column a_next a_barredAt a_ways a_own a_goes a_rowGoes a_mark a_count a_colour u.1 v_columns v_needed v_rows v_cubes v_placements v_taken v_chosen v_nodes v_found v_isSpent v_told u.2.1 v_turns v_toldNodes u.2.2.1 u.2.2.2) t.heap ∧ va_K (dC, dI) vwCl (tysG cB cI cJ cZ) t ∧ va_D A (ws_X5_entry cB cI cJ cZ a_this a_bits a_colours a_times a_cube a_laid a_takes a_choice a_isChosen a_column a_next a_barredAt a_ways a_own a_goes a_rowGoes a_mark a_count a_colour u.1 v_columns v_needed v_rows v_cubes v_placements v_taken v_chosen v_nodes v_found v_isSpent v_told u.2.1 v_turns v_toldNodes u.2.2.1 u.2.2.2)) A
abbrev g_X5_entry_44 (p : Program) (l : Launch) (e : Env) (s : State) (m : MethodId) (args : Array Value) (below : List Frame) (meth : Method) (c : Code) (A : Nat → Prop) (dC : Nat → ClassId) (dI : Nat → Nat → Nat) (cB cI cJ cZ : ClassId) (a_this a_bits a_colours a_times a_cube a_laid a_takes a_choice a_isChosen a_column a_next a_barredAt a_ways a_own a_goes a_rowGoes a_mark a_count a_colour : Nat) (v_columns : Int32) (v_needed : Int32) (v_rows : Int32) (v_cubes : Int32) (v_placements : Int32) (v_taken : Int32) (v_chosen : Int32) (v_nodes : Int32) (v_found : Int32) (v_isSpent : Int32) (v_told : Int32) (v_turns : Int32) (v_toldNodes : Int32) (out : Int32 × Int32 × Int32 × (Nat → Int32) × (Nat → Int32)) (k : Int32 → Int32 → (Nat → Int32) → (Nat → Int32) → Option (Int32 × Int32 × Int32 × (Nat → Int32) × (Nat → Int32))) : Prop := ∀ (v_thrown : Int32) (v_kept : Int32) (v_bits : (Nat → Int32)) (v_colours : (Nat → Int32)), k v_thrown v_kept v_bits v_colours = some out → ∀ (H : Heap) (locs : List Loc), va_P (dC, dI) vwCl (ws_X5_entry cB cI cJ cZ a_this a_bits a_colours a_times a_cube a_laid a_takes a_choice a_isChosen a_column a_next a_barredAt a_ways a_own a_goes a_rowGoes a_mark a_count a_colour v_thrown v_columns v_needed v_rows v_cubes v_placements v_taken v_chosen v_nodes v_found v_isSpent v_told v_kept v_turns v_toldNodes v_bits v_colours) H → va_D A (ws_X5_entry cB cI cJ cZ a_this a_bits a_colours a_times a_cube a_laid a_takes a_choice a_isChosen a_column a_next a_barredAt a_ways a_own a_goes a_rowGoes a_mark a_count a_colour v_thrown v_columns v_needed v_rows v_cubes v_placements v_taken v_chosen v_nodes v_found v_isSpent v_told v_kept v_turns v_toldNodes v_bits v_colours) → va_S A s.heap H locs → ∀ (ls : Array Slot), lv_has ls 3 [] → W p l e (headSpec wsX5_entry rm_X5_entry).room s m args below meth c H locs 0 0 (MQ below (qc_X5_entry A dC dI cB cI cJ cZ a_this a_bits a_colours a_times a_cube a_laid a_takes a_choice a_isChosen a_column a_next a_barredAt a_ways a_own a_goes a_rowGoes a_mark a_count a_colour v_columns v_needed v_rows v_cubes v_placements v_taken v_chosen v_nodes v_found v_isSpent v_told v_turns v_toldNodes out) args s 0 0 A) (F0 m 44 ls [])
abbrev g_X5_entry_93 (p : Program) (l : Launch) (e : Env) (s : State) (m : MethodId) (args : Array Value) (below : List Frame) (meth : Method) (c : Code) (A : Nat → Prop) (dC : Nat → ClassId) (dI : Nat → Nat → Nat) (cB cI cJ cZ : ClassId) (a_this a_bits a_colours a_times a_cube a_laid a_takes a_choice a_isChosen a_column a_next a_barredAt a_ways a_own a_goes a_rowGoes a_mark a_count a_colour : Nat) (v_columns : Int32) (v_needed : Int32) (v_rows : Int32) (v_cubes : Int32) (v_placements : Int32) (v_taken : Int32) (v_chosen : Int32) (v_nodes : Int32) (v_found : Int32) (v_isSpent : Int32) (v_told : Int32) (v_turns : Int32) (v_toldNodes : Int32) (out : Int32 × Int32 × Int32 × (Nat → Int32) × (Nat → Int32)) (k : Int32 → Int32 → (Nat → Int32) → (Nat → Int32) → Option (Int32 × Int32 × Int32 × (Nat → Int32) × (Nat → Int32))) : Prop := ∀ (v_thrown : Int32) (v_kept : Int32) (v_bits : (Nat → Int32)) (v_colours : (Nat → Int32)), k v_thrown v_kept v_bits v_colours = some out → ∀ (H : Heap) (locs : List Loc), va_P (dC, dI) vwCl (ws_X5_entry cB cI cJ cZ a_this a_bits a_colours a_times a_cube a_laid a_takes a_choice a_isChosen a_column a_next a_barredAt a_ways a_own a_goes a_rowGoes a_mark a_count a_colour v_thrown v_columns v_needed v_rows v_cubes v_placements v_taken v_chosen v_nodes v_found v_isSpent v_told v_kept v_turns v_toldNodes v_bits v_colours) H → va_D A (ws_X5_entry cB cI cJ cZ a_this a_bits a_colours a_times a_cube a_laid a_takes a_choice a_isChosen a_column a_next a_barredAt a_ways a_own a_goes a_rowGoes a_mark a_count a_colour v_thrown v_columns v_needed v_rows v_cubes v_placements v_taken v_chosen v_nodes v_found v_isSpent v_told v_kept v_turns v_toldNodes v_bits v_colours) → va_S A s.heap H locs → ∀ (ls : Array Slot), lv_has ls 3 [] → W p l e (headSpec wsX5_entry rm_X5_entry).room s m args below meth c H locs 0 0 (MQ below (qc_X5_entry A dC dI cB cI cJ cZ a_this a_bits a_colours a_times a_cube a_laid a_takes a_choice a_isChosen a_column a_next a_barredAt a_ways a_own a_goes a_rowGoes a_mark a_count a_colour v_columns v_needed v_rows v_cubes v_placements v_taken v_chosen v_nodes v_found v_isSpent v_told v_turns v_toldNodes out) args s 0 0 A) (F0 m 93 ls [])
abbrev g_X5_entry_38 (p : Program) (l : Launch) (e : Env) (s : State) (m : MethodId) (args : Array Value) (below : List Frame) (meth : Method) (c : Code) (A : Nat → Prop) (dC : Nat → ClassId) (dI : Nat → Nat → Nat) (cB cI cJ cZ : ClassId) (a_this a_bits a_colours a_times a_cube a_laid a_takes a_choice a_isChosen a_column a_next a_barredAt a_ways a_own a_goes a_rowGoes a_mark a_count a_colour : Nat) (v_columns : Int32) (v_needed : Int32) (v_rows : Int32) (v_cubes : Int32) (v_placements : Int32) (v_taken : Int32) (v_chosen : Int32) (v_nodes : Int32) (v_found : Int32) (v_isSpent : Int32) (v_told : Int32) (v_turns : Int32) (v_toldNodes : Int32) (out : Int32 × Int32 × Int32 × (Nat → Int32) × (Nat → Int32)) (k : Int32 → Int32 → (Nat → Int32) → (Nat → Int32) → Int32 → Int32 → Int32 → Int32 → Option (Int32 × Int32 × Int32 × (Nat → Int32) × (Nat → Int32))) : Prop := ∀ (v_thrown : Int32) (v_kept : Int32) (v_bits : (Nat → Int32)) (v_colours : (Nat → Int32)) (x1 : Int32) (x2 : Int32) (y0 : Int32) (y1 : Int32), k v_thrown v_kept v_bits v_colours x1 x2 y0 y1 = some out → ∀ (H : Heap) (locs : List Loc), va_P (dC, dI) vwCl (ws_X5_entry cB cI cJ cZ a_this a_bits a_colours a_times a_cube a_laid a_takes a_choice a_isChosen a_column a_next a_barredAt a_ways a_own a_goes a_rowGoes a_mark a_count a_colour v_thrown v_columns v_needed v_rows v_cubes v_placements v_taken v_chosen v_nodes v_found v_isSpent v_told v_kept v_turns v_toldNodes v_bits v_colours) H → va_D A (ws_X5_entry cB cI cJ cZ a_this a_bits a_colours a_times a_cube a_laid a_takes a_choice a_isChosen a_column a_next a_barredAt a_ways a_own a_goes a_rowGoes a_mark a_count a_colour v_thrown v_columns v_needed v_rows v_cubes v_placements v_taken v_chosen v_nodes v_found v_isSpent v_told v_kept v_turns v_toldNodes v_bits v_colours) → va_S A s.heap H locs → ∀ (ls : Array Slot), lv_has ls 3 [(0, .ref a_this), (1, .int x1), (2, .int x2)] → W p l e (headSpec wsX5_entry rm_X5_entry).room s m args below meth c H locs 0 0 (MQ below (qc_X5_entry A dC dI cB cI cJ cZ a_this a_bits a_colours a_times a_cube a_laid a_takes a_choice a_isChosen a_column a_next a_barredAt a_ways a_own a_goes a_rowGoes a_mark a_count a_colour v_columns v_needed v_rows v_cubes v_placements v_taken v_chosen v_nodes v_found v_isSpent v_told v_turns v_toldNodes out) args s 0 0 A) (F0 m 38 ls [.int y0, .int y1, .ref a_this])
abbrev g_X5_entry_33 (p : Program) (l : Launch) (e : Env) (s : State) (m : MethodId) (args : Array Value) (below : List Frame) (meth : Method) (c : Code) (A : Nat → Prop) (dC : Nat → ClassId) (dI : Nat → Nat → Nat) (cB cI cJ cZ : ClassId) (a_this a_bits a_colours a_times a_cube a_laid a_takes a_choice a_isChosen a_column a_next a_barredAt a_ways a_own a_goes a_rowGoes a_mark a_count a_colour : Nat) (v_columns : Int32) (v_needed : Int32) (v_rows : Int32) (v_cubes : Int32) (v_placements : Int32) (v_taken : Int32) (v_chosen : Int32) (v_nodes : Int32) (v_found : Int32) (v_isSpent : Int32) (v_told : Int32) (v_turns : Int32) (v_toldNodes : Int32) (out : Int32 × Int32 × Int32 × (Nat → Int32) × (Nat → Int32)) (k : Int32 → Int32 → (Nat → Int32) → (Nat → Int32) → Int32 → Int32 → Int32 → Option (Int32 × Int32 × Int32 × (Nat → Int32) × (Nat → Int32))) : Prop := ∀ (v_thrown : Int32) (v_kept : Int32) (v_bits : (Nat → Int32)) (v_colours : (Nat → Int32)) (x1 : Int32) (x2 : Int32) (y0 : Int32), k v_thrown v_kept v_bits v_colours x1 x2 y0 = some out → ∀ (H : Heap) (locs : List Loc), va_P (dC, dI) vwCl (ws_X5_entry cB cI cJ cZ a_this a_bits a_colours a_times a_cube a_laid a_takes a_choice a_isChosen a_column a_next a_barredAt a_ways a_own a_goes a_rowGoes a_mark a_count a_colour v_thrown v_columns v_needed v_rows v_cubes v_placements v_taken v_chosen v_nodes v_found v_isSpent v_told v_kept v_turns v_toldNodes v_bits v_colours) H → va_D A (ws_X5_entry cB cI cJ cZ a_this a_bits a_colours a_times a_cube a_laid a_takes a_choice a_isChosen a_column a_next a_barredAt a_ways a_own a_goes a_rowGoes a_mark a_count a_colour v_thrown v_columns v_needed v_rows v_cubes v_placements v_taken v_chosen v_nodes v_found v_isSpent v_told v_kept v_turns v_toldNodes v_bits v_colours) → va_S A s.heap H locs → ∀ (ls : Array Slot), lv_has ls 3 [(0, .ref a_this), (1, .int x1), (2, .int x2)] → W p l e (headSpec wsX5_entry rm_X5_entry).room s m args below meth c H locs 0 0 (MQ below (qc_X5_entry A dC dI cB cI cJ cZ a_this a_bits a_colours a_times a_cube a_laid a_takes a_choice a_isChosen a_column a_next a_barredAt a_ways a_own a_goes a_rowGoes a_mark a_count a_colour v_columns v_needed v_rows v_cubes v_placements v_taken v_chosen v_nodes v_found v_isSpent v_told v_turns v_toldNodes out) args s 0 0 A) (F0 m 33 ls [.int y0, .ref a_this])
abbrev g_X5_entry_15 (p : Program) (l : Launch) (e : Env) (s : State) (m : MethodId) (args : Array Value) (below : List Frame) (meth : Method) (c : Code) (A : Nat → Prop) (dC : Nat → ClassId) (dI : Nat → Nat → Nat) (cB cI cJ cZ : ClassId) (a_this a_bits a_colours a_times a_cube a_laid a_takes a_choice a_isChosen a_column a_next a_barredAt a_ways a_own a_goes a_rowGoes a_mark a_count a_colour : Nat) (v_columns : Int32) (v_needed : Int32) (v_rows : Int32) (v_cubes : Int32) (v_placements : Int32) (v_taken : Int32) (v_chosen : Int32) (v_nodes : Int32) (v_found : Int32) (v_isSpent : Int32) (v_told : Int32) (v_turns : Int32) (v_toldNodes : Int32) (out : Int32 × Int32 × Int32 × (Nat → Int32) × (Nat → Int32)) (k : Int32 → Int32 → (Nat → Int32) → (Nat → Int32) → Int32 → Int32 → Int32 → Int32 → Option (Int32 × Int32 × Int32 × (Nat → Int32) × (Nat → Int32))) : Prop := ∀ (v_thrown : Int32) (v_kept : Int32) (v_bits : (Nat → Int32)) (v_colours : (Nat → Int32)) (x1 : Int32) (x2 : Int32) (y0 : Int32) (y1 : Int32), k v_thrown v_kept v_bits v_colours x1 x2 y0 y1 = some out → ∀ (H : Heap) (locs : List Loc), va_P (dC, dI) vwCl (ws_X5_entry cB cI cJ cZ a_this a_bits a_colours a_times a_cube a_laid a_takes a_choice a_isChosen a_column a_next a_barredAt a_ways a_own a_goes a_rowGoes a_mark a_count a_colour v_thrown v_columns v_needed v_rows v_cubes v_placements v_taken v_chosen v_nodes v_found v_isSpent v_told v_kept v_turns v_toldNodes v_bits v_colours) H → va_D A (ws_X5_entry cB cI cJ cZ a_this a_bits a_colours a_times a_cube a_laid a_takes a_choice a_isChosen a_column a_next a_barredAt a_ways a_own a_goes a_rowGoes a_mark a_count a_colour v_thrown v_columns v_needed v_rows v_cubes v_placements v_taken v_chosen v_nodes v_found v_isSpent v_told v_kept v_turns v_toldNodes v_bits v_colours) → va_S A s.heap H locs → ∀ (ls : Array Slot), lv_has ls 3 [(0, .ref a_this), (1, .int x1), (2, .int x2)] → W p l e (headSpec wsX5_entry rm_X5_entry).room s m args below meth c H locs 0 0 (MQ below (qc_X5_entry A dC dI cB cI cJ cZ a_this a_bits a_colours a_times a_cube a_laid a_takes a_choice a_isChosen a_column a_next a_barredAt a_ways a_own a_goes a_rowGoes a_mark a_count a_colour v_columns v_needed v_rows v_cubes v_placements v_taken v_chosen v_nodes v_found v_isSpent v_told v_turns v_toldNodes out) args s 0 0 A) (F0 m 15 ls [.int y0, .int y1, .ref a_this])
abbrev g_X5_entry_0 (p : Program) (l : Launch) (e : Env) (s : State) (m : MethodId) (args : Array Value) (below : List Frame) (meth : Method) (c : Code) (A : Nat → Prop) (dC : Nat → ClassId) (dI : Nat → Nat → Nat) (cB cI cJ cZ : ClassId) (a_this a_bits a_colours a_times a_cube a_laid a_takes a_choice a_isChosen a_column a_next a_barredAt a_ways a_own a_goes a_rowGoes a_mark a_count a_colour : Nat) (v_columns : Int32) (v_needed : Int32) (v_rows : Int32) (v_cubes : Int32) (v_placements : Int32) (v_taken : Int32) (v_chosen : Int32) (v_nodes : Int32) (v_found : Int32) (v_isSpent : Int32) (v_told : Int32) (v_turns : Int32) (v_toldNodes : Int32) (out : Int32 × Int32 × Int32 × (Nat → Int32) × (Nat → Int32)) (k : Int32 → Int32 → (Nat → Int32) → (Nat → Int32) → Int32 → Int32 → Option (Int32 × Int32 × Int32 × (Nat → Int32) × (Nat → Int32))) : Prop := ∀ (v_thrown : Int32) (v_kept : Int32) (v_bits : (Nat → Int32)) (v_colours : (Nat → Int32)) (x1 : Int32) (x2 : Int32), k v_thrown v_kept v_bits v_colours x1 x2 = some out → ∀ (H : Heap) (locs : List Loc), va_P (dC, dI) vwCl (ws_X5_entry cB cI cJ cZ a_this a_bits a_colours a_times a_cube a_laid a_takes a_choice a_isChosen a_column a_next a_barredAt a_ways a_own a_goes a_rowGoes a_mark a_count a_colour v_thrown v_columns v_needed v_rows v_cubes v_placements v_taken v_chosen v_nodes v_found v_isSpent v_told v_kept v_turns v_toldNodes v_bits v_colours) H → va_D A (ws_X5_entry cB cI cJ cZ a_this a_bits a_colours a_times a_cube a_laid a_takes a_choice a_isChosen a_column a_next a_barredAt a_ways a_own a_goes a_rowGoes a_mark a_count a_colour v_thrown v_columns v_needed v_rows v_cubes v_placements v_taken v_chosen v_nodes v_found v_isSpent v_told v_kept v_turns v_toldNodes v_bits v_colours) → va_S A s.heap H locs → ∀ (ls : Array Slot), lv_has ls 3 [(0, .ref a_this), (1, .int x1), (2, .int x2)] → W p l e (headSpec wsX5_entry rm_X5_entry).room s m args below meth c H locs 0 0 (MQ below (qc_X5_entry A dC dI cB cI cJ cZ a_this a_bits a_colours a_times a_cube a_laid a_takes a_choice a_isChosen a_column a_next a_barredAt a_ways a_own a_goes a_rowGoes a_mark a_count a_colour v_columns v_needed v_rows v_cubes v_placements v_taken v_chosen v_nodes v_found v_isSpent v_told v_turns v_toldNodes out) args s 0 0 A) (F0 m 0 ls [])
set_option maxHeartbeats 4000000 in
set_option maxRecDepth 100000 in
theorem w_X5_entry_44 {p : Program} {l : Launch} {e : Env} {s : State} {m : MethodId} {args : Array Value} {below : List Frame} {meth : Method} {c : Code} {A : Nat → Prop} {dC : Nat → ClassId} {dI : Nat → Nat → Nat} {cB cI cJ cZ : ClassId} {a_this a_bits a_colours a_times a_cube a_laid a_takes a_choice a_isChosen a_column a_next a_barredAt a_ways a_own a_goes a_rowGoes a_mark a_count a_colour : Nat} {v_columns : Int32} {v_needed : Int32} {v_rows : Int32} {v_cubes : Int32} {v_placements : Int32} {v_taken : Int32} {v_chosen : Int32} {v_nodes : Int32} {v_found : Int32} {v_isSpent : Int32} {v_told : Int32} {v_turns : Int32} {v_toldNodes : Int32} {out : Int32 × Int32 × Int32 × (Nat → Int32) × (Nat → Int32)} (C0 : Cx RX5 cX5_entry (some .boolean) 3 wsX5_entry p s m args meth c A) (hK : va_K (dC, dI) vwCl (tysG cB cI cJ cZ) s)  : g_X5_entry_44 p l e s m args below meth c A dC dI cB cI cJ cZ a_this a_bits a_colours a_times a_cube a_laid a_takes a_choice a_isChosen a_column a_next a_barredAt a_ways a_own a_goes a_rowGoes a_mark a_count a_colour v_columns v_needed v_rows v_cubes v_placements v_taken v_chosen v_nodes v_found v_isSpent v_told v_turns v_toldNodes out (f_X5_entry_44 v_columns v_rows v_taken ) := by
  obtain ⟨hx, hb, hr, hml, hown, hts, hlocks, hA⟩ := id C0
  intro v_thrown v_kept v_bits v_colours hf H locs hP hD hS ls hl
  replace hf : ((some (((0 : Int32), (v_thrown, v_kept, v_bits, v_colours)))) : Option (Int32 × Int32 × Int32 × (Nat → Int32) × (Nat → Int32))) = some out := hf
  refine lv_iconst (v := 0) hx hb dX5_entry_44 (by decide) ?_
  have h9 := Option.some.inj hf
  have h8 := congrArg Prod.fst h9
  have h7 := congrArg Prod.snd h9
  exact W.zret (v := (0 : Int32)) hx hb hr rfl (fun t ht hW => ⟨⟨(0 : Int32), (v_thrown, v_kept, v_bits, v_colours), rfl, ⟨h8, h7⟩, by rw [ht]; exact hP, va_K.moved hW.alike hK, hD⟩, hS.F ht⟩) hS.2.2 dX5_entry_45
set_option maxHeartbeats 4000000 in
set_option maxRecDepth 100000 in
theorem w_X5_entry_93 {p : Program} {l : Launch} {e : Env} {s : State} {m : MethodId} {args : Array Value} {below : List Frame} {meth : Method} {c : Code} {A : Nat → Prop} {dC : Nat → ClassId} {dI : Nat → Nat → Nat} {cB cI cJ cZ : ClassId} {a_this a_bits a_colours a_times a_cube a_laid a_takes a_choice a_isChosen a_column a_next a_barredAt a_ways a_own a_goes a_rowGoes a_mark a_count a_colour : Nat} {v_columns : Int32} {v_needed : Int32} {v_rows : Int32} {v_cubes : Int32} {v_placements : Int32} {v_taken : Int32} {v_chosen : Int32} {v_nodes : Int32} {v_found : Int32} {v_isSpent : Int32} {v_told : Int32} {v_turns : Int32} {v_toldNodes : Int32} {out : Int32 × Int32 × Int32 × (Nat → Int32) × (Nat → Int32)} (C0 : Cx RX5 cX5_entry (some .boolean) 3 wsX5_entry p s m args meth c A) (hK : va_K (dC, dI) vwCl (tysG cB cI cJ cZ) s)  : g_X5_entry_93 p l e s m args below meth c A dC dI cB cI cJ cZ a_this a_bits a_colours a_times a_cube a_laid a_takes a_choice a_isChosen a_column a_next a_barredAt a_ways a_own a_goes a_rowGoes a_mark a_count a_colour v_columns v_needed v_rows v_cubes v_placements v_taken v_chosen v_nodes v_found v_isSpent v_told v_turns v_toldNodes out (f_X5_entry_93 v_columns v_rows v_taken ) := by
  obtain ⟨hx, hb, hr, hml, hown, hts, hlocks, hA⟩ := id C0
  intro v_thrown v_kept v_bits v_colours hf H locs hP hD hS ls hl
  replace hf : ((some (((0 : Int32), (v_thrown, v_kept, v_bits, v_colours)))) : Option (Int32 × Int32 × Int32 × (Nat → Int32) × (Nat → Int32))) = some out := hf
  refine lv_iconst (v := 0) hx hb dX5_entry_93 (by decide) ?_
  have h9 := Option.some.inj hf
  have h8 := congrArg Prod.fst h9
  have h7 := congrArg Prod.snd h9
  exact W.zret (v := (0 : Int32)) hx hb hr rfl (fun t ht hW => ⟨⟨(0 : Int32), (v_thrown, v_kept, v_bits, v_colours), rfl, ⟨h8, h7⟩, by rw [ht]; exact hP, va_K.moved hW.alike hK, hD⟩, hS.F ht⟩) hS.2.2 dX5_entry_94
set_option maxHeartbeats 4000000 in
set_option maxRecDepth 100000 in
theorem w_X5_entry_38 {p : Program} {l : Launch} {e : Env} {s : State} {m : MethodId} {args : Array Value} {below : List Frame} {meth : Method} {c : Code} {A : Nat → Prop} {dC : Nat → ClassId} {dI : Nat → Nat → Nat} {cB cI cJ cZ : ClassId} {a_this a_bits a_colours a_times a_cube a_laid a_takes a_choice a_isChosen a_column a_next a_barredAt a_ways a_own a_goes a_rowGoes a_mark a_count a_colour : Nat} {v_columns : Int32} {v_needed : Int32} {v_rows : Int32} {v_cubes : Int32} {v_placements : Int32} {v_taken : Int32} {v_chosen : Int32} {v_nodes : Int32} {v_found : Int32} {v_isSpent : Int32} {v_told : Int32} {v_turns : Int32} {v_toldNodes : Int32} {out : Int32 × Int32 × Int32 × (Nat → Int32) × (Nat → Int32)} (C0 : Cx RX5 cX5_entry (some .boolean) 3 wsX5_entry p s m args meth c A) (hK : va_K (dC, dI) vwCl (tysG cB cI cJ cZ) s)  : g_X5_entry_38 p l e s m args below meth c A dC dI cB cI cJ cZ a_this a_bits a_colours a_times a_cube a_laid a_takes a_choice a_isChosen a_column a_next a_barredAt a_ways a_own a_goes a_rowGoes a_mark a_count a_colour v_columns v_needed v_rows v_cubes v_placements v_taken v_chosen v_nodes v_found v_isSpent v_told v_turns v_toldNodes out (f_X5_entry_38 v_columns v_rows v_taken ) := by
  obtain ⟨hx, hb, hr, hml, hown, hts, hlocks, hA⟩ := id C0
  intro v_thrown v_kept v_bits v_colours x1 x2 y0 y1 hf H locs hP hD hS ls hl
  replace hf : (((f_X5_throwsIf v_thrown y1 y0).bind (fun o_1 =>
  if o_1.1 = 0 then
  (if v_rows = 0 then
  (f_X5_entry_93 v_columns v_rows v_taken o_1.2 v_kept v_bits v_colours)
  else
  (if 0 < v_taken then
  (f_X5_entry_93 v_columns v_rows v_taken o_1.2 v_kept v_bits v_colours)
  else
  ((f_X5_has v_bits (v_rows - (1 : Int32)) x1).bind (fun o_5 =>
  if o_5.1 = 0 then
  (if ((v_rows - (1 : Int32)) < 0 ∨ 60 ≤ Int32.toNatClampNeg (v_rows - (1 : Int32))) then none else
  (f_X5_countOf (v_bits (Int32.toNatClampNeg (v_rows - (1 : Int32))))).bind (fun o_8 =>
  if o_8.1 = (8 : Int32) then
  (f_X5_entry_93 v_columns v_rows v_taken o_1.2 v_kept v_bits v_colours)
  else
  (if ((v_rows - (1 : Int32)) < 0 ∨ 60 ≤ Int32.toNatClampNeg (v_rows - (1 : Int32))) then none else
  if ((v_rows - (1 : Int32)) < 0 ∨ 60 ≤ Int32.toNatClampNeg (v_rows - (1 : Int32))) then none else
  if ((((24 : Int32) * (v_rows - (1 : Int32))) + x1) < 0 ∨ 1440 ≤ Int32.toNatClampNeg (((24 : Int32) * (v_rows - (1 : Int32))) + x1)) then none else
  some (((1 : Int32), (o_1.2, (0 : Int32), (upd v_bits (Int32.toNatClampNeg (v_rows - (1 : Int32))) ((v_bits (Int32.toNatClampNeg (v_rows - (1 : Int32)))) ||| ((1 : Int32) <<< (x1 &&& 31)))), (upd v_colours (Int32.toNatClampNeg (((24 : Int32) * (v_rows - (1 : Int32))) + x1)) x2)))))))
  else
  (f_X5_entry_93 v_columns v_rows v_taken o_1.2 v_kept v_bits v_colours)))))
  else
  (f_X5_entry_44 v_columns v_rows v_taken o_1.2 v_kept v_bits v_colours))) : Option (Int32 × Int32 × Int32 × (Nat → Int32) × (Nat → Int32))) = some out := hf
  obtain ⟨o_1, ho_1, hf⟩ := gd_bd hf
  have hPc := hP.sub (ws' := ws_X5_throwsIf cB cI cJ cZ a_this a_times a_bits a_colours a_cube a_laid a_takes a_choice a_isChosen a_column a_next a_barredAt a_ways a_own a_goes a_rowGoes a_mark a_count a_colour v_thrown v_columns v_needed v_rows v_cubes v_placements v_taken v_chosen v_nodes v_found v_isSpent v_told v_kept v_turns v_toldNodes) [0] rfl
  have hDc := hD.sub (ws' := ws_X5_throwsIf cB cI cJ cZ a_this a_times a_bits a_colours a_cube a_laid a_takes a_choice a_isChosen a_column a_next a_barredAt a_ways a_own a_goes a_rowGoes a_mark a_count a_colour v_thrown v_columns v_needed v_rows v_cubes v_placements v_taken v_chosen v_nodes v_found v_isSpent v_told v_kept v_turns v_toldNodes) [0] (by decide) rfl
  have hFc := va_free (wc := ws_X5_throwsIf cB cI cJ cZ a_this a_times a_bits a_colours a_cube a_laid a_takes a_choice a_isChosen a_column a_next a_barredAt a_ways a_own a_goes a_rowGoes a_mark a_count a_colour v_thrown v_columns v_needed v_rows v_cubes v_placements v_taken v_chosen v_nodes v_found v_isSpent v_told v_kept v_turns v_toldNodes) hD hS hA [0] rfl
  refine va_calli (va_runV (As := [.int y1, .int y0]) (rest := []) ⟨hx, hb, hml, hown, hts⟩ (c_X5_throwsIf l dC dI cB cI cJ cZ a_this a_times a_bits a_colours a_cube a_laid a_takes a_choice a_isChosen a_column a_next a_barredAt a_ways a_own a_goes a_rowGoes a_mark a_count a_colour H.size v_thrown v_columns v_needed v_rows v_cubes v_placements v_taken v_chosen v_nodes v_found v_isSpent v_told v_kept v_turns v_toldNodes y1 y0 o_1 ho_1) (cwV 2 hts gX5_entry_X5_throwsIf rfl rfl rfl ⟨rfl, nd_X5_throwsIf⟩ ⟨Nat.le_of_ble_eq_true rfl, Nat.le_of_ble_eq_true rfl⟩) ⟨fun a U g mk q => by obtain ⟨q0, q1, qP, qK, qD⟩ := q; exact ⟨q0, q1, qP, va_K.moved (u := U) (U := U.calling g mk a) (Vm.Alike.refl U.vm) qK, qD⟩, va_recv hK hPc (ci := 6) (q0 := 0) rfl rfl, fun U hU hW => ⟨rfl, by rw [hU], by rw [hU]; exact hPc, va_K.moved hW.alike hK, hDc.weaken (fun _ _ _ _ => trivial)⟩⟩ rfl rfl hl.1 rfl (lv_room (Nat.le_of_ble_eq_true rfl)) dX5_entry_38 ⟨Nat.le_of_ble_eq_true rfl, Nat.le_of_ble_eq_true rfl⟩) hS (fun q _ h => hFc q h) hFc (fun r_1 u_1 t H1 locs ht hvm hw hB hz1 hk1 hS => ?_)
  obtain ⟨rfl, rfl⟩ := hw
  obtain ⟨hP1, hK1, hD1⟩ := hB
  rw [ht] at hP1
  obtain ⟨hP, hD⟩ := va_join (wr := [(a_bits, .inl (cI, 60, .inl v_bits)), (a_colours, .inl (cI, 1440, .inl v_colours))]) (w1 := ws_X5_throwsIf cB cI cJ cZ a_this a_times a_bits a_colours a_cube a_laid a_takes a_choice a_isChosen a_column a_next a_barredAt a_ways a_own a_goes a_rowGoes a_mark a_count a_colour o_1.2 v_columns v_needed v_rows v_cubes v_placements v_taken v_chosen v_nodes v_found v_isSpent v_told v_kept v_turns v_toldNodes) hP hD [0] [1, 2] rfl rfl (by decide) (by decide) hk1 hFc hP1 hD1
  generalize H1 = H at hP hS ⊢
  have hP : va_P (dC, dI) vwCl (ws_X5_entry cB cI cJ cZ a_this a_bits a_colours a_times a_cube a_laid a_takes a_choice a_isChosen a_column a_next a_barredAt a_ways a_own a_goes a_rowGoes a_mark a_count a_colour o_1.2 v_columns v_needed v_rows v_cubes v_placements v_taken v_chosen v_nodes v_found v_isSpent v_told v_kept v_turns v_toldNodes v_bits v_colours) H := hP.sub [2, 0, 1] rfl
  have hD : va_D A (ws_X5_entry cB cI cJ cZ a_this a_bits a_colours a_times a_cube a_laid a_takes a_choice a_isChosen a_column a_next a_barredAt a_ways a_own a_goes a_rowGoes a_mark a_count a_colour o_1.2 v_columns v_needed v_rows v_cubes v_placements v_taken v_chosen v_nodes v_found v_isSpent v_told v_kept v_turns v_toldNodes v_bits v_colours) := hD.sub [2, 0, 1] (by decide) rfl
  refine lv_if_eq (tgt := 46) hx hb dX5_entry_41 (by decide) (fun c_2 => ?_) (fun c_2 => ?_)
  · replace hf := (if_pos c_2).symm.trans hf
    refine lv_aload_n hx hb dX5_entry_46 rfl (lv_at hl 0 rfl) ?_
    refine va_get (D := (dC, dI)) (ci := 6) (v := .int v_rows) (C := RX5) (T := TX5) (N := 33) hx hb hts in_X5_entry_X5 hown hK hP 0 rfl rfl 4 (by decide) (hts (.fieldLink RX5 76 "LinkedCoversModel" "rows" "I") lk_X5_entry_f76) (fun _ h9 => h9) rfl dX5_entry_47 ?_
    refine lv_if_eq (tgt := 93) hx hb dX5_entry_50 (by decide) (fun c_3 => ?_) (fun c_3 => ?_)
    · replace hf := (if_pos c_3).symm.trans hf
      exact w_X5_entry_93 C0 hK o_1.2 v_kept v_bits v_colours hf _ _ hP hD hS ls (lv_sub hl [] rfl)
    · replace hf := (if_neg c_3).symm.trans hf
      refine lv_aload_n hx hb dX5_entry_53 rfl (lv_at hl 0 rfl) ?_
      refine va_get (D := (dC, dI)) (ci := 6) (v := .int v_taken) (C := RX5) (T := TX5) (N := 33) hx hb hts in_X5_entry_X5 hown hK hP 0 rfl rfl 11 (by decide) (hts (.fieldLink RX5 87 "LinkedCoversModel" "taken" "I") lk_X5_entry_f87) (fun _ h9 => h9) rfl dX5_entry_54 ?_
      refine lv_if_gt (tgt := 93) hx hb dX5_entry_57 (by decide) (fun c_4 => ?_) (fun c_4 => ?_)
      · replace hf := (if_pos c_4).symm.trans hf
        exact w_X5_entry_93 C0 hK o_1.2 v_kept v_bits v_colours hf _ _ hP hD hS ls (lv_sub hl [] rfl)
      · replace hf := (if_neg c_4).symm.trans hf
        refine lv_aload_n hx hb dX5_entry_60 rfl (lv_at hl 0 rfl) ?_
        refine lv_aload_n hx hb dX5_entry_61 rfl (lv_at hl 0 rfl) ?_
        refine va_get (D := (dC, dI)) (ci := 6) (v := .int v_rows) (C := RX5) (T := TX5) (N := 33) hx hb hts in_X5_entry_X5 hown hK hP 0 rfl rfl 4 (by decide) (hts (.fieldLink RX5 76 "LinkedCoversModel" "rows" "I") lk_X5_entry_f76) (fun _ h9 => h9) rfl dX5_entry_62 ?_
        refine lv_iconst (v := 1) hx hb dX5_entry_65 (by decide) ?_
        refine lv_isub hx hb dX5_entry_66 ?_
        refine lv_iload_n hx hb dX5_entry_67 rfl (lv_at hl 1 rfl) ?_
        obtain ⟨o_5, ho_5, hf⟩ := gd_bd hf
        have hPc := hP.sub (ws' := ws_X5_has cB cI cJ cZ a_this a_bits a_times a_colours a_cube a_laid a_takes a_choice a_isChosen a_column a_next a_barredAt a_ways a_own a_goes a_rowGoes a_mark a_count a_colour o_1.2 v_columns v_needed v_rows v_cubes v_placements v_taken v_chosen v_nodes v_found v_isSpent v_told v_kept v_turns v_toldNodes v_bits) [0, 1] rfl
        have hDc := hD.sub (ws' := ws_X5_has cB cI cJ cZ a_this a_bits a_times a_colours a_cube a_laid a_takes a_choice a_isChosen a_column a_next a_barredAt a_ways a_own a_goes a_rowGoes a_mark a_count a_colour o_1.2 v_columns v_needed v_rows v_cubes v_placements v_taken v_chosen v_nodes v_found v_isSpent v_told v_kept v_turns v_toldNodes v_bits) [0, 1] (by decide) rfl
        have hFc := va_free (wc := ws_X5_has cB cI cJ cZ a_this a_bits a_times a_colours a_cube a_laid a_takes a_choice a_isChosen a_column a_next a_barredAt a_ways a_own a_goes a_rowGoes a_mark a_count a_colour o_1.2 v_columns v_needed v_rows v_cubes v_placements v_taken v_chosen v_nodes v_found v_isSpent v_told v_kept v_turns v_toldNodes v_bits) hD hS hA [0, 1] rfl
        refine va_calli (va_runV (As := [.int (v_rows - (1 : Int32)), .int x1]) (rest := []) ⟨hx, hb, hml, hown, hts⟩ (c_X5_has l dC dI cB cI cJ cZ a_this a_bits a_times a_colours a_cube a_laid a_takes a_choice a_isChosen a_column a_next a_barredAt a_ways a_own a_goes a_rowGoes a_mark a_count a_colour H.size o_1.2 v_columns v_needed v_rows v_cubes v_placements v_taken v_chosen v_nodes v_found v_isSpent v_told v_kept v_turns v_toldNodes v_bits (v_rows - (1 : Int32)) x1 o_5 ho_5) (cwV 2 hts gX5_entry_X5_has rfl rfl rfl ⟨rfl, nd_X5_has⟩ ⟨Nat.le_of_ble_eq_true rfl, Nat.le_of_ble_eq_true rfl⟩) ⟨fun a U g mk q => by obtain ⟨q0, q1, qP, qK, qD⟩ := q; exact ⟨q0, q1, qP, va_K.moved (u := U) (U := U.calling g mk a) (Vm.Alike.refl U.vm) qK, qD⟩, va_recv hK hPc (ci := 6) (q0 := 0) rfl rfl, fun U hU hW => ⟨rfl, by rw [hU], by rw [hU]; exact hPc, va_K.moved hW.alike hK, hDc.weaken (fun _ _ _ _ => trivial)⟩⟩ rfl rfl hl.1 rfl (lv_room (Nat.le_of_ble_eq_true rfl)) dX5_entry_68 ⟨Nat.le_of_ble_eq_true rfl, Nat.le_of_ble_eq_true rfl⟩) hS (fun q _ h => hFc q h) hFc (fun r_5 u_5 t H1 locs ht hvm hw hB hz1 hk1 hS => ?_)
        obtain ⟨rfl, rfl⟩ := hw
        obtain ⟨hP1, hK1, hD1⟩ := hB
        rw [ht] at hP1
        obtain ⟨hP, hD⟩ := va_join (wr := [(a_colours, .inl (cI, 1440, .inl v_colours))]) (w1 := ws_X5_has cB cI cJ cZ a_this a_bits a_times a_colours a_cube a_laid a_takes a_choice a_isChosen a_column a_next a_barredAt a_ways a_own a_goes a_rowGoes a_mark a_count a_colour o_1.2 v_columns v_needed v_rows v_cubes v_placements v_taken v_chosen v_nodes v_found v_isSpent v_told v_kept v_turns v_toldNodes v_bits) hP hD [0, 1] [2] rfl rfl (by decide) (by decide) hk1 hFc hP1 hD1
        generalize H1 = H at hP hS ⊢
        have hP : va_P (dC, dI) vwCl (ws_X5_entry cB cI cJ cZ a_this a_bits a_colours a_times a_cube a_laid a_takes a_choice a_isChosen a_column a_next a_barredAt a_ways a_own a_goes a_rowGoes a_mark a_count a_colour o_1.2 v_columns v_needed v_rows v_cubes v_placements v_taken v_chosen v_nodes v_found v_isSpent v_told v_kept v_turns v_toldNodes v_bits v_colours) H := hP.sub [1, 2, 0] rfl
        have hD : va_D A (ws_X5_entry cB cI cJ cZ a_this a_bits a_colours a_times a_cube a_laid a_takes a_choice a_isChosen a_column a_next a_barredAt a_ways a_own a_goes a_rowGoes a_mark a_count a_colour o_1.2 v_columns v_needed v_rows v_cubes v_placements v_taken v_chosen v_nodes v_found v_isSpent v_told v_kept v_turns v_toldNodes v_bits v_colours) := hD.sub [1, 2, 0] (by decide) rfl
        refine lv_if_ne (tgt := 93) hx hb dX5_entry_71 (by decide) (fun c_6 => ?_) (fun c_6 => ?_)
        · replace hf := (if_neg c_6).symm.trans hf
          exact w_X5_entry_93 C0 hK o_1.2 v_kept v_bits v_colours hf _ _ hP hD hS ls (lv_sub hl [] rfl)
        · replace hf := (if_pos c_6).symm.trans hf
          refine lv_aload_n hx hb dX5_entry_74 rfl (lv_at hl 0 rfl) ?_
          refine va_get (D := (dC, dI)) (ci := 6) (v := .ref a_bits) (C := RX5) (T := TX5) (N := 33) hx hb hts in_X5_entry_X5 hown hK hP 0 rfl rfl 5 (by decide) (hts (.fieldLink RX5 13 "LinkedCoversModel" "bits" "[I") lk_X5_entry_f13) (fun _ h9 => h9) rfl dX5_entry_75 ?_
          refine lv_aload_n hx hb dX5_entry_78 rfl (lv_at hl 0 rfl) ?_
          refine va_get (D := (dC, dI)) (ci := 6) (v := .int v_rows) (C := RX5) (T := TX5) (N := 33) hx hb hts in_X5_entry_X5 hown hK hP 0 rfl rfl 4 (by decide) (hts (.fieldLink RX5 76 "LinkedCoversModel" "rows" "I") lk_X5_entry_f76) (fun _ h9 => h9) rfl dX5_entry_79 ?_
          refine lv_iconst (v := 1) hx hb dX5_entry_82 (by decide) ?_
          refine lv_isub hx hb dX5_entry_83 ?_
          obtain ⟨h_7, hf⟩ := gd_ck hf
          refine va_iald hx hb hK hP 1 1 rfl rfl h_7 dX5_entry_84 ?_
          obtain ⟨o_8, ho_8, hf⟩ := gd_bd hf
          have hPc := hP.sub (ws' := ws_X5_countOf cB cI cJ cZ  ) [] rfl
          have hDc := hD.sub (ws' := ws_X5_countOf cB cI cJ cZ  ) [] (by decide) rfl
          have hFc := va_free (wc := ws_X5_countOf cB cI cJ cZ  ) hD hS hA [] rfl
          refine va_calli (va_runS (As := [.int (v_bits (Int32.toNatClampNeg (v_rows - (1 : Int32))))]) (rest := []) ⟨hx, hb, hml, hown, hts⟩ (c_X5_countOf l dC dI cB cI cJ cZ H.size (v_bits (Int32.toNatClampNeg (v_rows - (1 : Int32)))) o_8 ho_8) (va_cwS 1 hts gX5_entry_X5_countOf rfl rfl rfl nd_X5_countOf ⟨Nat.le_of_ble_eq_true rfl, Nat.le_of_ble_eq_true rfl⟩) ⟨fun a U g mk q => by obtain ⟨q0, q1, qP, qK, qD⟩ := q; exact ⟨q0, q1, qP, va_K.moved (u := U) (U := U.calling g mk a) (Vm.Alike.refl U.vm) qK, qD⟩, fun U hU hW => ⟨rfl, by rw [hU], by rw [hU]; exact hPc, va_K.moved hW.alike hK, hDc.weaken (fun _ _ _ _ => trivial)⟩⟩ rfl rfl hl.1 rfl (lv_room (Nat.le_of_ble_eq_true rfl)) dX5_entry_85 ⟨Nat.le_of_ble_eq_true rfl, Nat.le_of_ble_eq_true rfl⟩) hS (fun q _ h => hFc q h) hFc (fun r_8 u_8 t H1 locs ht hvm hw hB hz1 hk1 hS => ?_)
          obtain ⟨rfl, rfl⟩ := hw
          obtain ⟨hP1, hK1, hD1⟩ := hB
          rw [ht] at hP1
          obtain ⟨hP, hD⟩ := va_join (wr := [(a_this, .inr (6, [.int o_1.2, .int v_columns, .int v_needed, .ref a_times, .int v_rows, .ref a_bits, .ref a_colours, .int v_cubes, .ref a_cube, .ref a_laid, .int v_placements, .int v_taken, .ref a_takes, .int v_chosen, .ref a_choice, .ref a_isChosen, .ref a_column, .ref a_next, .ref a_barredAt, .int v_nodes, .int v_found, .int v_isSpent, .int v_told, .int v_kept, .ref a_ways, .ref a_own, .int v_turns, .ref a_goes, .ref a_rowGoes, .ref a_mark, .ref a_count, .ref a_colour, .int v_toldNodes])), (a_bits, .inl (cI, 60, .inl v_bits)), (a_colours, .inl (cI, 1440, .inl v_colours))]) (w1 := ws_X5_countOf cB cI cJ cZ  ) hP hD [] [0, 1, 2] rfl rfl (by decide) (by decide) hk1 hFc hP1 hD1
          generalize H1 = H at hP hS ⊢
          have hP : va_P (dC, dI) vwCl (ws_X5_entry cB cI cJ cZ a_this a_bits a_colours a_times a_cube a_laid a_takes a_choice a_isChosen a_column a_next a_barredAt a_ways a_own a_goes a_rowGoes a_mark a_count a_colour o_1.2 v_columns v_needed v_rows v_cubes v_placements v_taken v_chosen v_nodes v_found v_isSpent v_told v_kept v_turns v_toldNodes v_bits v_colours) H := hP.sub [0, 1, 2] rfl
          have hD : va_D A (ws_X5_entry cB cI cJ cZ a_this a_bits a_colours a_times a_cube a_laid a_takes a_choice a_isChosen a_column a_next a_barredAt a_ways a_own a_goes a_rowGoes a_mark a_count a_colour o_1.2 v_columns v_needed v_rows v_cubes v_placements v_taken v_chosen v_nodes v_found v_isSpent v_told v_kept v_turns v_toldNodes v_bits v_colours) := hD.sub [0, 1, 2] (by decide) rfl
          refine lv_bipush (v := 8) hx hb dX5_entry_88 (by decide) ?_
          refine lv_icmp_ne (tgt := 95) hx hb dX5_entry_90 (by decide) (fun c_9 => ?_) (fun c_9 => ?_)
          · replace hf := (if_neg c_9).symm.trans hf
            refine lv_aload_n hx hb dX5_entry_95 rfl (lv_at hl 0 rfl) ?_
            refine va_get (D := (dC, dI)) (ci := 6) (v := .ref a_bits) (C := RX5) (T := TX5) (N := 33) hx hb hts in_X5_entry_X5 hown hK hP 0 rfl rfl 5 (by decide) (hts (.fieldLink RX5 13 "LinkedCoversModel" "bits" "[I") lk_X5_entry_f13) (fun _ h9 => h9) rfl dX5_entry_96 ?_
            refine lv_aload_n hx hb dX5_entry_99 rfl (lv_at hl 0 rfl) ?_
            refine va_get (D := (dC, dI)) (ci := 6) (v := .int v_rows) (C := RX5) (T := TX5) (N := 33) hx hb hts in_X5_entry_X5 hown hK hP 0 rfl rfl 4 (by decide) (hts (.fieldLink RX5 76 "LinkedCoversModel" "rows" "I") lk_X5_entry_f76) (fun _ h9 => h9) rfl dX5_entry_100 ?_
            refine lv_iconst (v := 1) hx hb dX5_entry_103 (by decide) ?_
            refine lv_isub hx hb dX5_entry_104 ?_
            refine lv_aload_n hx hb dX5_entry_105 rfl (lv_at hl 0 rfl) ?_
            refine va_get (D := (dC, dI)) (ci := 6) (v := .ref a_bits) (C := RX5) (T := TX5) (N := 33) hx hb hts in_X5_entry_X5 hown hK hP 0 rfl rfl 5 (by decide) (hts (.fieldLink RX5 13 "LinkedCoversModel" "bits" "[I") lk_X5_entry_f13) (fun _ h9 => h9) rfl dX5_entry_106 ?_
            refine lv_aload_n hx hb dX5_entry_109 rfl (lv_at hl 0 rfl) ?_
            refine va_get (D := (dC, dI)) (ci := 6) (v := .int v_rows) (C := RX5) (T := TX5) (N := 33) hx hb hts in_X5_entry_X5 hown hK hP 0 rfl rfl 4 (by decide) (hts (.fieldLink RX5 76 "LinkedCoversModel" "rows" "I") lk_X5_entry_f76) (fun _ h9 => h9) rfl dX5_entry_110 ?_
            refine lv_iconst (v := 1) hx hb dX5_entry_113 (by decide) ?_
            refine lv_isub hx hb dX5_entry_114 ?_
            obtain ⟨h_10, hf⟩ := gd_ck hf
            refine va_iald hx hb hK hP 1 1 rfl rfl h_10 dX5_entry_115 ?_
            refine lv_iconst (v := 1) hx hb dX5_entry_116 (by decide) ?_
            refine lv_iload_n hx hb dX5_entry_117 rfl (lv_at hl 1 rfl) ?_
            refine lv_ishl hx hb dX5_entry_118 ?_
            refine lv_ior hx hb dX5_entry_119 ?_
            obtain ⟨h_11, hf⟩ := gd_ck hf
            refine va_iast hx hb hK hP hD hS 1 1 rfl rfl h_11 dX5_entry_120 (fun H locs hP hD hS => ?_)
            have hP : va_P (dC, dI) vwCl (ws_X5_entry cB cI cJ cZ a_this a_bits a_colours a_times a_cube a_laid a_takes a_choice a_isChosen a_column a_next a_barredAt a_ways a_own a_goes a_rowGoes a_mark a_count a_colour o_1.2 v_columns v_needed v_rows v_cubes v_placements v_taken v_chosen v_nodes v_found v_isSpent v_told v_kept v_turns v_toldNodes (upd v_bits (Int32.toNatClampNeg (v_rows - (1 : Int32))) ((v_bits (Int32.toNatClampNeg (v_rows - (1 : Int32)))) ||| ((1 : Int32) <<< (x1 &&& 31)))) v_colours) H := hP
            have hD : va_D A (ws_X5_entry cB cI cJ cZ a_this a_bits a_colours a_times a_cube a_laid a_takes a_choice a_isChosen a_column a_next a_barredAt a_ways a_own a_goes a_rowGoes a_mark a_count a_colour o_1.2 v_columns v_needed v_rows v_cubes v_placements v_taken v_chosen v_nodes v_found v_isSpent v_told v_kept v_turns v_toldNodes (upd v_bits (Int32.toNatClampNeg (v_rows - (1 : Int32))) ((v_bits (Int32.toNatClampNeg (v_rows - (1 : Int32)))) ||| ((1 : Int32) <<< (x1 &&& 31)))) v_colours) := hD
            refine lv_aload_n hx hb dX5_entry_121 rfl (lv_at hl 0 rfl) ?_
            refine va_get (D := (dC, dI)) (ci := 6) (v := .ref a_colours) (C := RX5) (T := TX5) (N := 33) hx hb hts in_X5_entry_X5 hown hK hP 0 rfl rfl 6 (by decide) (hts (.fieldLink RX5 16 "LinkedCoversModel" "colours" "[I") lk_X5_entry_f16) (fun _ h9 => h9) rfl dX5_entry_122 ?_
            refine lv_bipush (v := 24) hx hb dX5_entry_125 (by decide) ?_
            refine lv_aload_n hx hb dX5_entry_127 rfl (lv_at hl 0 rfl) ?_
            refine va_get (D := (dC, dI)) (ci := 6) (v := .int v_rows) (C := RX5) (T := TX5) (N := 33) hx hb hts in_X5_entry_X5 hown hK hP 0 rfl rfl 4 (by decide) (hts (.fieldLink RX5 76 "LinkedCoversModel" "rows" "I") lk_X5_entry_f76) (fun _ h9 => h9) rfl dX5_entry_128 ?_
            refine lv_iconst (v := 1) hx hb dX5_entry_131 (by decide) ?_
            refine lv_isub hx hb dX5_entry_132 ?_
            refine lv_imul hx hb dX5_entry_133 ?_
            refine lv_iload_n hx hb dX5_entry_134 rfl (lv_at hl 1 rfl) ?_
            refine lv_iadd hx hb dX5_entry_135 ?_
            refine lv_iload_n hx hb dX5_entry_136 rfl (lv_at hl 2 rfl) ?_
            obtain ⟨h_12, hf⟩ := gd_ck hf
            refine va_iast hx hb hK hP hD hS 2 1 rfl rfl h_12 dX5_entry_137 (fun H locs hP hD hS => ?_)
            have hP : va_P (dC, dI) vwCl (ws_X5_entry cB cI cJ cZ a_this a_bits a_colours a_times a_cube a_laid a_takes a_choice a_isChosen a_column a_next a_barredAt a_ways a_own a_goes a_rowGoes a_mark a_count a_colour o_1.2 v_columns v_needed v_rows v_cubes v_placements v_taken v_chosen v_nodes v_found v_isSpent v_told v_kept v_turns v_toldNodes (upd v_bits (Int32.toNatClampNeg (v_rows - (1 : Int32))) ((v_bits (Int32.toNatClampNeg (v_rows - (1 : Int32)))) ||| ((1 : Int32) <<< (x1 &&& 31)))) (upd v_colours (Int32.toNatClampNeg (((24 : Int32) * (v_rows - (1 : Int32))) + x1)) x2)) H := hP
            have hD : va_D A (ws_X5_entry cB cI cJ cZ a_this a_bits a_colours a_times a_cube a_laid a_takes a_choice a_isChosen a_column a_next a_barredAt a_ways a_own a_goes a_rowGoes a_mark a_count a_colour o_1.2 v_columns v_needed v_rows v_cubes v_placements v_taken v_chosen v_nodes v_found v_isSpent v_told v_kept v_turns v_toldNodes (upd v_bits (Int32.toNatClampNeg (v_rows - (1 : Int32))) ((v_bits (Int32.toNatClampNeg (v_rows - (1 : Int32)))) ||| ((1 : Int32) <<< (x1 &&& 31)))) (upd v_colours (Int32.toNatClampNeg (((24 : Int32) * (v_rows - (1 : Int32))) + x1)) x2)) := hD
            refine lv_aload_n hx hb dX5_entry_138 rfl (lv_at hl 0 rfl) ?_
            refine lv_iconst (v := 0) hx hb dX5_entry_139 (by decide) ?_
            refine va_put (D := (dC, dI)) (ci := 6) (v := .int (0 : Int32)) (ty := .int) (C := RX5) (T := TX5) (N := 33) hx hb hts in_X5_entry_X5 tyX5 tyX5_ok nmX5 hown hK hP hD hS 0 rfl rfl 23 (by decide) (hts (.fieldLink RX5 90 "LinkedCoversModel" "kept" "I") lk_X5_entry_f90) (fun _ h9 => h9) rfl (by decide +kernel) rfl rfl (Nat.le_of_ble_eq_true rfl) dX5_entry_140 (fun H locs hP hD hS => ?_)
            have hP : va_P (dC, dI) vwCl (ws_X5_entry cB cI cJ cZ a_this a_bits a_colours a_times a_cube a_laid a_takes a_choice a_isChosen a_column a_next a_barredAt a_ways a_own a_goes a_rowGoes a_mark a_count a_colour o_1.2 v_columns v_needed v_rows v_cubes v_placements v_taken v_chosen v_nodes v_found v_isSpent v_told (0 : Int32) v_turns v_toldNodes (upd v_bits (Int32.toNatClampNeg (v_rows - (1 : Int32))) ((v_bits (Int32.toNatClampNeg (v_rows - (1 : Int32)))) ||| ((1 : Int32) <<< (x1 &&& 31)))) (upd v_colours (Int32.toNatClampNeg (((24 : Int32) * (v_rows - (1 : Int32))) + x1)) x2)) H := hP
            have hD : va_D A (ws_X5_entry cB cI cJ cZ a_this a_bits a_colours a_times a_cube a_laid a_takes a_choice a_isChosen a_column a_next a_barredAt a_ways a_own a_goes a_rowGoes a_mark a_count a_colour o_1.2 v_columns v_needed v_rows v_cubes v_placements v_taken v_chosen v_nodes v_found v_isSpent v_told (0 : Int32) v_turns v_toldNodes (upd v_bits (Int32.toNatClampNeg (v_rows - (1 : Int32))) ((v_bits (Int32.toNatClampNeg (v_rows - (1 : Int32)))) ||| ((1 : Int32) <<< (x1 &&& 31)))) (upd v_colours (Int32.toNatClampNeg (((24 : Int32) * (v_rows - (1 : Int32))) + x1)) x2)) := hD
            refine lv_iconst (v := 1) hx hb dX5_entry_143 (by decide) ?_
            have h9 := Option.some.inj hf
            have h8 := congrArg Prod.fst h9
            have h7 := congrArg Prod.snd h9
            exact W.zret (v := (1 : Int32)) hx hb hr rfl (fun t ht hW => ⟨⟨(1 : Int32), (o_1.2, (0 : Int32), (upd v_bits (Int32.toNatClampNeg (v_rows - (1 : Int32))) ((v_bits (Int32.toNatClampNeg (v_rows - (1 : Int32)))) ||| ((1 : Int32) <<< (x1 &&& 31)))), (upd v_colours (Int32.toNatClampNeg (((24 : Int32) * (v_rows - (1 : Int32))) + x1)) x2)), rfl, ⟨h8, h7⟩, by rw [ht]; exact hP, va_K.moved hW.alike hK, hD⟩, hS.F ht⟩) hS.2.2 dX5_entry_144
          · replace hf := (if_pos c_9).symm.trans hf
            exact w_X5_entry_93 C0 hK o_1.2 v_kept v_bits v_colours hf _ _ hP hD hS ls (lv_sub hl [] rfl)
  · replace hf := (if_neg c_2).symm.trans hf
    exact w_X5_entry_44 C0 hK o_1.2 v_kept v_bits v_colours hf _ _ hP hD hS ls (lv_sub hl [] rfl)
set_option maxHeartbeats 4000000 in
set_option maxRecDepth 100000 in
theorem w_X5_entry_33 {p : Program} {l : Launch} {e : Env} {s : State} {m : MethodId} {args : Array Value} {below : List Frame} {meth : Method} {c : Code} {A : Nat → Prop} {dC : Nat → ClassId} {dI : Nat → Nat → Nat} {cB cI cJ cZ : ClassId} {a_this a_bits a_colours a_times a_cube a_laid a_takes a_choice a_isChosen a_column a_next a_barredAt a_ways a_own a_goes a_rowGoes a_mark a_count a_colour : Nat} {v_columns : Int32} {v_needed : Int32} {v_rows : Int32} {v_cubes : Int32} {v_placements : Int32} {v_taken : Int32} {v_chosen : Int32} {v_nodes : Int32} {v_found : Int32} {v_isSpent : Int32} {v_told : Int32} {v_turns : Int32} {v_toldNodes : Int32} {out : Int32 × Int32 × Int32 × (Nat → Int32) × (Nat → Int32)} (C0 : Cx RX5 cX5_entry (some .boolean) 3 wsX5_entry p s m args meth c A) (hK : va_K (dC, dI) vwCl (tysG cB cI cJ cZ) s)  : g_X5_entry_33 p l e s m args below meth c A dC dI cB cI cJ cZ a_this a_bits a_colours a_times a_cube a_laid a_takes a_choice a_isChosen a_column a_next a_barredAt a_ways a_own a_goes a_rowGoes a_mark a_count a_colour v_columns v_needed v_rows v_cubes v_placements v_taken v_chosen v_nodes v_found v_isSpent v_told v_turns v_toldNodes out (f_X5_entry_33 v_columns v_rows v_taken ) := by
  obtain ⟨hx, hb, hr, hml, hown, hts, hlocks, hA⟩ := id C0
  intro v_thrown v_kept v_bits v_colours x1 x2 y0 hf H locs hP hD hS ls hl
  replace hf : ((f_X5_entry_38 v_columns v_rows v_taken v_thrown v_kept v_bits v_colours x1 x2 (1 : Int32) y0) : Option (Int32 × Int32 × Int32 × (Nat → Int32) × (Nat → Int32))) = some out := hf
  refine lv_iconst (v := 1) hx hb dX5_entry_33 (by decide) ?_
  refine lv_goto (tgt := 38) hx hb dX5_entry_34 (by decide) ?_
  exact w_X5_entry_38 C0 hK v_thrown v_kept v_bits v_colours x1 x2 (1 : Int32) y0 hf _ _ hP hD hS ls (lv_sub hl [0, 1, 2] rfl)
set_option maxHeartbeats 4000000 in
set_option maxRecDepth 100000 in
theorem w_X5_entry_15 {p : Program} {l : Launch} {e : Env} {s : State} {m : MethodId} {args : Array Value} {below : List Frame} {meth : Method} {c : Code} {A : Nat → Prop} {dC : Nat → ClassId} {dI : Nat → Nat → Nat} {cB cI cJ cZ : ClassId} {a_this a_bits a_colours a_times a_cube a_laid a_takes a_choice a_isChosen a_column a_next a_barredAt a_ways a_own a_goes a_rowGoes a_mark a_count a_colour : Nat} {v_columns : Int32} {v_needed : Int32} {v_rows : Int32} {v_cubes : Int32} {v_placements : Int32} {v_taken : Int32} {v_chosen : Int32} {v_nodes : Int32} {v_found : Int32} {v_isSpent : Int32} {v_told : Int32} {v_turns : Int32} {v_toldNodes : Int32} {out : Int32 × Int32 × Int32 × (Nat → Int32) × (Nat → Int32)} (C0 : Cx RX5 cX5_entry (some .boolean) 3 wsX5_entry p s m args meth c A) (hK : va_K (dC, dI) vwCl (tysG cB cI cJ cZ) s)  : g_X5_entry_15 p l e s m args below meth c A dC dI cB cI cJ cZ a_this a_bits a_colours a_times a_cube a_laid a_takes a_choice a_isChosen a_column a_next a_barredAt a_ways a_own a_goes a_rowGoes a_mark a_count a_colour v_columns v_needed v_rows v_cubes v_placements v_taken v_chosen v_nodes v_found v_isSpent v_told v_turns v_toldNodes out (f_X5_entry_15 v_columns v_rows v_taken ) := by
  obtain ⟨hx, hb, hr, hml, hown, hts, hlocks, hA⟩ := id C0
  intro v_thrown v_kept v_bits v_colours x1 x2 y0 y1 hf H locs hP hD hS ls hl
  replace hf : (((f_X5_throwsIf v_thrown y1 y0).bind (fun o_13 =>
  if o_13.1 = 0 then
  (if x2 < 0 then
  (f_X5_entry_33 v_columns v_rows v_taken o_13.2 v_kept v_bits v_colours x1 x2 (2 : Int32))
  else
  (if x2 ≤ (7 : Int32) then
  (f_X5_entry_38 v_columns v_rows v_taken o_13.2 v_kept v_bits v_colours x1 x2 (0 : Int32) (2 : Int32))
  else
  (f_X5_entry_33 v_columns v_rows v_taken o_13.2 v_kept v_bits v_colours x1 x2 (2 : Int32))))
  else
  (f_X5_entry_44 v_columns v_rows v_taken o_13.2 v_kept v_bits v_colours))) : Option (Int32 × Int32 × Int32 × (Nat → Int32) × (Nat → Int32))) = some out := hf
  obtain ⟨o_13, ho_13, hf⟩ := gd_bd hf
  have hPc := hP.sub (ws' := ws_X5_throwsIf cB cI cJ cZ a_this a_times a_bits a_colours a_cube a_laid a_takes a_choice a_isChosen a_column a_next a_barredAt a_ways a_own a_goes a_rowGoes a_mark a_count a_colour v_thrown v_columns v_needed v_rows v_cubes v_placements v_taken v_chosen v_nodes v_found v_isSpent v_told v_kept v_turns v_toldNodes) [0] rfl
  have hDc := hD.sub (ws' := ws_X5_throwsIf cB cI cJ cZ a_this a_times a_bits a_colours a_cube a_laid a_takes a_choice a_isChosen a_column a_next a_barredAt a_ways a_own a_goes a_rowGoes a_mark a_count a_colour v_thrown v_columns v_needed v_rows v_cubes v_placements v_taken v_chosen v_nodes v_found v_isSpent v_told v_kept v_turns v_toldNodes) [0] (by decide) rfl
  have hFc := va_free (wc := ws_X5_throwsIf cB cI cJ cZ a_this a_times a_bits a_colours a_cube a_laid a_takes a_choice a_isChosen a_column a_next a_barredAt a_ways a_own a_goes a_rowGoes a_mark a_count a_colour v_thrown v_columns v_needed v_rows v_cubes v_placements v_taken v_chosen v_nodes v_found v_isSpent v_told v_kept v_turns v_toldNodes) hD hS hA [0] rfl
  refine va_calli (va_runV (As := [.int y1, .int y0]) (rest := []) ⟨hx, hb, hml, hown, hts⟩ (c_X5_throwsIf l dC dI cB cI cJ cZ a_this a_times a_bits a_colours a_cube a_laid a_takes a_choice a_isChosen a_column a_next a_barredAt a_ways a_own a_goes a_rowGoes a_mark a_count a_colour H.size v_thrown v_columns v_needed v_rows v_cubes v_placements v_taken v_chosen v_nodes v_found v_isSpent v_told v_kept v_turns v_toldNodes y1 y0 o_13 ho_13) (cwV 2 hts gX5_entry_X5_throwsIf rfl rfl rfl ⟨rfl, nd_X5_throwsIf⟩ ⟨Nat.le_of_ble_eq_true rfl, Nat.le_of_ble_eq_true rfl⟩) ⟨fun a U g mk q => by obtain ⟨q0, q1, qP, qK, qD⟩ := q; exact ⟨q0, q1, qP, va_K.moved (u := U) (U := U.calling g mk a) (Vm.Alike.refl U.vm) qK, qD⟩, va_recv hK hPc (ci := 6) (q0 := 0) rfl rfl, fun U hU hW => ⟨rfl, by rw [hU], by rw [hU]; exact hPc, va_K.moved hW.alike hK, hDc.weaken (fun _ _ _ _ => trivial)⟩⟩ rfl rfl hl.1 rfl (lv_room (Nat.le_of_ble_eq_true rfl)) dX5_entry_15 ⟨Nat.le_of_ble_eq_true rfl, Nat.le_of_ble_eq_true rfl⟩) hS (fun q _ h => hFc q h) hFc (fun r_13 u_13 t H1 locs ht hvm hw hB hz1 hk1 hS => ?_)
  obtain ⟨rfl, rfl⟩ := hw
  obtain ⟨hP1, hK1, hD1⟩ := hB
  rw [ht] at hP1
  obtain ⟨hP, hD⟩ := va_join (wr := [(a_bits, .inl (cI, 60, .inl v_bits)), (a_colours, .inl (cI, 1440, .inl v_colours))]) (w1 := ws_X5_throwsIf cB cI cJ cZ a_this a_times a_bits a_colours a_cube a_laid a_takes a_choice a_isChosen a_column a_next a_barredAt a_ways a_own a_goes a_rowGoes a_mark a_count a_colour o_13.2 v_columns v_needed v_rows v_cubes v_placements v_taken v_chosen v_nodes v_found v_isSpent v_told v_kept v_turns v_toldNodes) hP hD [0] [1, 2] rfl rfl (by decide) (by decide) hk1 hFc hP1 hD1
  generalize H1 = H at hP hS ⊢
  have hP : va_P (dC, dI) vwCl (ws_X5_entry cB cI cJ cZ a_this a_bits a_colours a_times a_cube a_laid a_takes a_choice a_isChosen a_column a_next a_barredAt a_ways a_own a_goes a_rowGoes a_mark a_count a_colour o_13.2 v_columns v_needed v_rows v_cubes v_placements v_taken v_chosen v_nodes v_found v_isSpent v_told v_kept v_turns v_toldNodes v_bits v_colours) H := hP.sub [2, 0, 1] rfl
  have hD : va_D A (ws_X5_entry cB cI cJ cZ a_this a_bits a_colours a_times a_cube a_laid a_takes a_choice a_isChosen a_column a_next a_barredAt a_ways a_own a_goes a_rowGoes a_mark a_count a_colour o_13.2 v_columns v_needed v_rows v_cubes v_placements v_taken v_chosen v_nodes v_found v_isSpent v_told v_kept v_turns v_toldNodes v_bits v_colours) := hD.sub [2, 0, 1] (by decide) rfl
  refine lv_if_ne (tgt := 44) hx hb dX5_entry_18 (by decide) (fun c_14 => ?_) (fun c_14 => ?_)
  · replace hf := (if_neg c_14).symm.trans hf
    exact w_X5_entry_44 C0 hK o_13.2 v_kept v_bits v_colours hf _ _ hP hD hS ls (lv_sub hl [] rfl)
  · replace hf := (if_pos c_14).symm.trans hf
    refine lv_aload_n hx hb dX5_entry_21 rfl (lv_at hl 0 rfl) ?_
    refine lv_iconst (v := 2) hx hb dX5_entry_22 (by decide) ?_
    refine lv_iload_n hx hb dX5_entry_23 rfl (lv_at hl 2 rfl) ?_
    refine lv_if_lt (tgt := 33) hx hb dX5_entry_24 (by decide) (fun c_15 => ?_) (fun c_15 => ?_)
    · replace hf := (if_pos c_15).symm.trans hf
      exact w_X5_entry_33 C0 hK o_13.2 v_kept v_bits v_colours x1 x2 (2 : Int32) hf _ _ hP hD hS ls (lv_sub hl [0, 1, 2] rfl)
    · replace hf := (if_neg c_15).symm.trans hf
      refine lv_iload_n hx hb dX5_entry_27 rfl (lv_at hl 2 rfl) ?_
      refine lv_bipush (v := 7) hx hb dX5_entry_28 (by decide) ?_
      refine lv_icmp_le (tgt := 37) hx hb dX5_entry_30 (by decide) (fun c_16 => ?_) (fun c_16 => ?_)
      · replace hf := (if_pos c_16).symm.trans hf
        refine lv_iconst (v := 0) hx hb dX5_entry_37 (by decide) ?_
        exact w_X5_entry_38 C0 hK o_13.2 v_kept v_bits v_colours x1 x2 (0 : Int32) (2 : Int32) hf _ _ hP hD hS ls (lv_sub hl [0, 1, 2] rfl)
      · replace hf := (if_neg c_16).symm.trans hf
        exact w_X5_entry_33 C0 hK o_13.2 v_kept v_bits v_colours x1 x2 (2 : Int32) hf _ _ hP hD hS ls (lv_sub hl [0, 1, 2] rfl)
set_option maxHeartbeats 4000000 in
set_option maxRecDepth 100000 in
theorem w_X5_entry_0 {p : Program} {l : Launch} {e : Env} {s : State} {m : MethodId} {args : Array Value} {below : List Frame} {meth : Method} {c : Code} {A : Nat → Prop} {dC : Nat → ClassId} {dI : Nat → Nat → Nat} {cB cI cJ cZ : ClassId} {a_this a_bits a_colours a_times a_cube a_laid a_takes a_choice a_isChosen a_column a_next a_barredAt a_ways a_own a_goes a_rowGoes a_mark a_count a_colour : Nat} {v_columns : Int32} {v_needed : Int32} {v_rows : Int32} {v_cubes : Int32} {v_placements : Int32} {v_taken : Int32} {v_chosen : Int32} {v_nodes : Int32} {v_found : Int32} {v_isSpent : Int32} {v_told : Int32} {v_turns : Int32} {v_toldNodes : Int32} {out : Int32 × Int32 × Int32 × (Nat → Int32) × (Nat → Int32)} (C0 : Cx RX5 cX5_entry (some .boolean) 3 wsX5_entry p s m args meth c A) (hK : va_K (dC, dI) vwCl (tysG cB cI cJ cZ) s)  : g_X5_entry_0 p l e s m args below meth c A dC dI cB cI cJ cZ a_this a_bits a_colours a_times a_cube a_laid a_takes a_choice a_isChosen a_column a_next a_barredAt a_ways a_own a_goes a_rowGoes a_mark a_count a_colour v_columns v_needed v_rows v_cubes v_placements v_taken v_chosen v_nodes v_found v_isSpent v_told v_turns v_toldNodes out (f_X5_entry v_columns v_rows v_taken ) := by
  obtain ⟨hx, hb, hr, hml, hown, hts, hlocks, hA⟩ := id C0
  intro v_thrown v_kept v_bits v_colours x1 x2 hf H locs hP hD hS ls hl
  replace hf : (((f_X5_isColumn v_columns x1).bind (fun o_17 =>
  if o_17.1 = 0 then
  (f_X5_entry_15 v_columns v_rows v_taken v_thrown v_kept v_bits v_colours x1 x2 (1 : Int32) (1 : Int32))
  else
  (f_X5_entry_15 v_columns v_rows v_taken v_thrown v_kept v_bits v_colours x1 x2 (0 : Int32) (1 : Int32)))) : Option (Int32 × Int32 × Int32 × (Nat → Int32) × (Nat → Int32))) = some out := hf
  refine lv_aload_n hx hb dX5_entry_0 rfl (lv_at hl 0 rfl) ?_
  refine lv_iconst (v := 1) hx hb dX5_entry_1 (by decide) ?_
  refine lv_aload_n hx hb dX5_entry_2 rfl (lv_at hl 0 rfl) ?_
  refine lv_iload_n hx hb dX5_entry_3 rfl (lv_at hl 1 rfl) ?_
  obtain ⟨o_17, ho_17, hf⟩ := gd_bd hf
  have hPc := hP.sub (ws' := ws_X5_isColumn cB cI cJ cZ a_this a_times a_bits a_colours a_cube a_laid a_takes a_choice a_isChosen a_column a_next a_barredAt a_ways a_own a_goes a_rowGoes a_mark a_count a_colour v_thrown v_columns v_needed v_rows v_cubes v_placements v_taken v_chosen v_nodes v_found v_isSpent v_told v_kept v_turns v_toldNodes) [0] rfl
  have hDc := hD.sub (ws' := ws_X5_isColumn cB cI cJ cZ a_this a_times a_bits a_colours a_cube a_laid a_takes a_choice a_isChosen a_column a_next a_barredAt a_ways a_own a_goes a_rowGoes a_mark a_count a_colour v_thrown v_columns v_needed v_rows v_cubes v_placements v_taken v_chosen v_nodes v_found v_isSpent v_told v_kept v_turns v_toldNodes) [0] (by decide) rfl
  have hFc := va_free (wc := ws_X5_isColumn cB cI cJ cZ a_this a_times a_bits a_colours a_cube a_laid a_takes a_choice a_isChosen a_column a_next a_barredAt a_ways a_own a_goes a_rowGoes a_mark a_count a_colour v_thrown v_columns v_needed v_rows v_cubes v_placements v_taken v_chosen v_nodes v_found v_isSpent v_told v_kept v_turns v_toldNodes) hD hS hA [0] rfl
  refine va_calli (va_runV (As := [.int x1]) (rest := [.int (1 : Int32), .ref a_this]) ⟨hx, hb, hml, hown, hts⟩ (c_X5_isColumn l dC dI cB cI cJ cZ a_this a_times a_bits a_colours a_cube a_laid a_takes a_choice a_isChosen a_column a_next a_barredAt a_ways a_own a_goes a_rowGoes a_mark a_count a_colour H.size v_thrown v_columns v_needed v_rows v_cubes v_placements v_taken v_chosen v_nodes v_found v_isSpent v_told v_kept v_turns v_toldNodes x1 o_17 ho_17) (cwV 1 hts gX5_entry_X5_isColumn rfl rfl rfl ⟨rfl, nd_X5_isColumn⟩ ⟨Nat.le_of_ble_eq_true rfl, Nat.le_of_ble_eq_true rfl⟩) ⟨fun a U g mk q => by obtain ⟨q0, q1, qP, qK, qD⟩ := q; exact ⟨q0, q1, qP, va_K.moved (u := U) (U := U.calling g mk a) (Vm.Alike.refl U.vm) qK, qD⟩, va_recv hK hPc (ci := 6) (q0 := 0) rfl rfl, fun U hU hW => ⟨rfl, by rw [hU], by rw [hU]; exact hPc, va_K.moved hW.alike hK, hDc.weaken (fun _ _ _ _ => trivial)⟩⟩ rfl rfl hl.1 rfl (lv_room (Nat.le_of_ble_eq_true rfl)) dX5_entry_4 ⟨Nat.le_of_ble_eq_true rfl, Nat.le_of_ble_eq_true rfl⟩) hS (fun q _ h => hFc q h) hFc (fun r_17 u_17 t H1 locs ht hvm hw hB hz1 hk1 hS => ?_)
  obtain ⟨rfl, rfl⟩ := hw
  obtain ⟨hP1, hK1, hD1⟩ := hB
  rw [ht] at hP1
  obtain ⟨hP, hD⟩ := va_join (wr := [(a_bits, .inl (cI, 60, .inl v_bits)), (a_colours, .inl (cI, 1440, .inl v_colours))]) (w1 := ws_X5_isColumn cB cI cJ cZ a_this a_times a_bits a_colours a_cube a_laid a_takes a_choice a_isChosen a_column a_next a_barredAt a_ways a_own a_goes a_rowGoes a_mark a_count a_colour v_thrown v_columns v_needed v_rows v_cubes v_placements v_taken v_chosen v_nodes v_found v_isSpent v_told v_kept v_turns v_toldNodes) hP hD [0] [1, 2] rfl rfl (by decide) (by decide) hk1 hFc hP1 hD1
  generalize H1 = H at hP hS ⊢
  have hP : va_P (dC, dI) vwCl (ws_X5_entry cB cI cJ cZ a_this a_bits a_colours a_times a_cube a_laid a_takes a_choice a_isChosen a_column a_next a_barredAt a_ways a_own a_goes a_rowGoes a_mark a_count a_colour v_thrown v_columns v_needed v_rows v_cubes v_placements v_taken v_chosen v_nodes v_found v_isSpent v_told v_kept v_turns v_toldNodes v_bits v_colours) H := hP.sub [2, 0, 1] rfl
  have hD : va_D A (ws_X5_entry cB cI cJ cZ a_this a_bits a_colours a_times a_cube a_laid a_takes a_choice a_isChosen a_column a_next a_barredAt a_ways a_own a_goes a_rowGoes a_mark a_count a_colour v_thrown v_columns v_needed v_rows v_cubes v_placements v_taken v_chosen v_nodes v_found v_isSpent v_told v_kept v_turns v_toldNodes v_bits v_colours) := hD.sub [2, 0, 1] (by decide) rfl
  refine lv_if_ne (tgt := 14) hx hb dX5_entry_7 (by decide) (fun c_18 => ?_) (fun c_18 => ?_)
  · replace hf := (if_neg c_18).symm.trans hf
    refine lv_iconst (v := 0) hx hb dX5_entry_14 (by decide) ?_
    exact w_X5_entry_15 C0 hK v_thrown v_kept v_bits v_colours x1 x2 (0 : Int32) (1 : Int32) hf _ _ hP hD hS ls (lv_sub hl [0, 1, 2] rfl)
  · replace hf := (if_pos c_18).symm.trans hf
    refine lv_iconst (v := 1) hx hb dX5_entry_10 (by decide) ?_
    refine lv_goto (tgt := 15) hx hb dX5_entry_11 (by decide) ?_
    exact w_X5_entry_15 C0 hK v_thrown v_kept v_bits v_colours x1 x2 (1 : Int32) (1 : Int32) hf _ _ hP hD hS ls (lv_sub hl [0, 1, 2] rfl)
theorem nd_X5_entry : yX5_entry.cls ≠ "java/lang/invoke/MethodHandle" ∧ yX5_entry.cls ≠ "java/lang/invoke/VarHandle" ∧ (parseMethodDescriptor yX5_entry.desc).map (fun d => d.parameters.length) = some 2 := by decide +kernel
set_option maxHeartbeats 4000000 in
set_option maxRecDepth 100000 in
theorem c_X5_entry (l : Launch) (dC : Nat → ClassId) (dI : Nat → Nat → Nat) (cB cI cJ cZ : ClassId) (a_this a_bits a_colours a_times a_cube a_laid a_takes a_choice a_isChosen a_column a_next a_barredAt a_ways a_own a_goes a_rowGoes a_mark a_count a_colour : Nat) (sz : Nat) (v_thrown : Int32) (v_columns : Int32) (v_needed : Int32) (v_rows : Int32) (v_cubes : Int32) (v_placements : Int32) (v_taken : Int32) (v_chosen : Int32) (v_nodes : Int32) (v_found : Int32) (v_isSpent : Int32) (v_told : Int32) (v_kept : Int32) (v_turns : Int32) (v_toldNodes : Int32) (v_bits : (Nat → Int32)) (v_colours : (Nat → Int32)) (x1 : Int32) (x2 : Int32) (out : Int32 × Int32 × Int32 × (Nat → Int32) × (Nat → Int32)) (hf : f_X5_entry v_columns v_rows v_taken v_thrown v_kept v_bits v_colours x1 x2 = some out) : Met l yX5_entry wsX5_entry rm_X5_entry (va_Pc [.ref a_this, .int x1, .int x2] (fun U => U.heap.size = sz ∧ va_P (dC, dI) vwCl (ws_X5_entry cB cI cJ cZ a_this a_bits a_colours a_times a_cube a_laid a_takes a_choice a_isChosen a_column a_next a_barredAt a_ways a_own a_goes a_rowGoes a_mark a_count a_colour v_thrown v_columns v_needed v_rows v_cubes v_placements v_taken v_chosen v_nodes v_found v_isSpent v_told v_kept v_turns v_toldNodes v_bits v_colours) U.heap ∧ va_K (dC, dI) vwCl (tysG cB cI cJ cZ) U ∧ va_D (fun _ => True) (ws_X5_entry cB cI cJ cZ a_this a_bits a_colours a_times a_cube a_laid a_takes a_choice a_isChosen a_column a_next a_barredAt a_ways a_own a_goes a_rowGoes a_mark a_count a_colour v_thrown v_columns v_needed v_rows v_cubes v_placements v_taken v_chosen v_nodes v_found v_isSpent v_told v_kept v_turns v_toldNodes v_bits v_colours))) (qc_X5_entry (va_A (ws_X5_entry cB cI cJ cZ a_this a_bits a_colours a_times a_cube a_laid a_takes a_choice a_isChosen a_column a_next a_barredAt a_ways a_own a_goes a_rowGoes a_mark a_count a_colour v_thrown v_columns v_needed v_rows v_cubes v_placements v_taken v_chosen v_nodes v_found v_isSpent v_told v_kept v_turns v_toldNodes v_bits v_colours) sz) dC dI cB cI cJ cZ a_this a_bits a_colours a_times a_cube a_laid a_takes a_choice a_isChosen a_column a_next a_barredAt a_ways a_own a_goes a_rowGoes a_mark a_count a_colour v_columns v_needed v_rows v_cubes v_placements v_taken v_chosen v_nodes v_found v_isSpent v_told v_turns v_toldNodes out) 0 0 (va_A (ws_X5_entry cB cI cJ cZ a_this a_bits a_colours a_times a_cube a_laid a_takes a_choice a_isChosen a_column a_next a_barredAt a_ways a_own a_goes a_rowGoes a_mark a_count a_colour v_thrown v_columns v_needed v_rows v_cubes v_placements v_taken v_chosen v_nodes v_found v_isSpent v_told v_kept v_turns v_toldNodes v_bits v_colours) sz) := by
  refine Met.ofW (cc := cX5_entry) (maxL := 3) (ret := (some .boolean)) (by decide) rfl ?_
  intro p e s m args below meth c s₁ B hml hv
  obtain ⟨rfl, hsz, hP, hK, hD0⟩ := hv
  subst hsz
  have hD := hD0.self (sz := s.heap.size)
  generalize hAe : va_A (ws_X5_entry cB cI cJ cZ a_this a_bits a_colours a_times a_cube a_laid a_takes a_choice a_isChosen a_column a_next a_barredAt a_ways a_own a_goes a_rowGoes a_mark a_count a_colour v_thrown v_columns v_needed v_rows v_cubes v_placements v_taken v_chosen v_nodes v_found v_isSpent v_told v_kept v_turns v_toldNodes v_bits v_colours) s.heap.size = A at hD ⊢
  have hA : ∀ q : Nat, s.heap.size ≤ q → A q := fun q h => by rw [← hAe]; exact Or.inr h
  have hl := lv_entry ([.ref a_this, .int x1, .int x2]) (n := 3) (Nat.le_of_ble_eq_true rfl)
  rw [lg_entry_eq]
  generalize (lg_sl ([.ref a_this, .int x1, .int x2]) ++ List.replicate (3 - (lg_sl ([.ref a_this, .int x1, .int x2])).length) Slot.unset).toArray = ls at hl ⊢
  have hl : lv_has ls 3 [(0, .ref a_this), (1, .int x1), (2, .int x2)] := hl
  exact w_X5_entry_0 ⟨B.exec, B.bytes, B.returns, hml, findClass_of_methodNamed B.named, atoms_spec (ws := wsX5_entry) B.pre, B.notSynchronized, hA⟩ hK v_thrown v_kept v_bits v_colours x1 x2 hf _ _ hP hD va_S.rf ls (lv_sub hl [0, 1, 2] rfl)
-- X5.cube(III)Z: 64 instructions
theorem in_X5_cube_X5 : ∀ w ∈ wsX50, w ∈ wsX5_cube := by decide +kernel
abbrev ws_X5_cube (cB cI cJ cZ : ClassId) (a_this a_cube a_times a_bits a_colours a_laid a_takes a_choice a_isChosen a_column a_next a_barredAt a_ways a_own a_goes a_rowGoes a_mark a_count a_colour : Nat) (v_thrown : Int32) (v_columns : Int32) (v_needed : Int32) (v_rows : Int32) (v_cubes : Int32) (v_placements : Int32) (v_taken : Int32) (v_chosen : Int32) (v_nodes : Int32) (v_found : Int32) (v_isSpent : Int32) (v_told : Int32) (v_kept : Int32) (v_turns : Int32) (v_toldNodes : Int32) (v_cube : (Nat → Int32)) : va_W := [(a_this, .inr (6, [.int v_thrown, .int v_columns, .int v_needed, .ref a_times, .int v_rows, .ref a_bits, .ref a_colours, .int v_cubes, .ref a_cube, .ref a_laid, .int v_placements, .int v_taken, .ref a_takes, .int v_chosen, .ref a_choice, .ref a_isChosen, .ref a_column, .ref a_next, .ref a_barredAt, .int v_nodes, .int v_found, .int v_isSpent, .int v_told, .int v_kept, .ref a_ways, .ref a_own, .int v_turns, .ref a_goes, .ref a_rowGoes, .ref a_mark, .ref a_count, .ref a_colour, .int v_toldNodes])), (a_cube, .inl (cI, 7, .inl v_cube))]
abbrev rm_X5_cube : Room := { frames := 0, cells := 0, slots := 0, locals := 0 }
theorem lk_X5_cube_f104 : Cond.fieldLink RX5 104 "LinkedCoversModel" "cubes" "I" ∈ wsX5_cube := by decide +kernel
theorem lk_X5_cube_f19 : Cond.fieldLink RX5 19 "LinkedCoversModel" "cube" "[I" ∈ wsX5_cube := by decide +kernel
theorem lk_X5_cube_f73 : Cond.fieldLink RX5 73 "LinkedCoversModel" "thrown" "I" ∈ wsX5_cube := by decide +kernel
def f_X5_cube_41   (v_thrown : Int32) (v_cubes : Int32) (v_cube : (Nat → Int32)) : Option (Int32 × Int32 × Int32 × (Nat → Int32)) :=
  some (((0 : Int32), (v_thrown, v_cubes, v_cube)))
def f_X5_cube_58   : Nat → Int32 → Int32 → (Nat → Int32) → Int32 → Int32 → Option (Int32 × Int32 × Int32 × (Nat → Int32))
  | 0 => fun _ _ _ _ _ => none
  | n + 1 => fun v_thrown v_cubes v_cube x4 x5 => if v_cubes ≤ x5 then
  (if (v_cubes < 0 ∨ 7 ≤ Int32.toNatClampNeg v_cubes) then none else
  some (((1 : Int32), (v_thrown, (v_cubes + (1 : Int32)), (upd v_cube (Int32.toNatClampNeg v_cubes) x4)))))
  else
  (if (x5 < 0 ∨ 7 ≤ Int32.toNatClampNeg x5) then none else
  if (v_cube (Int32.toNatClampNeg x5)) = x4 then
  (some (((0 : Int32), (v_thrown, v_cubes, v_cube))))
  else
  (f_X5_cube_58 n v_thrown v_cubes v_cube x4 (x5 + 1)))
def f_X5_cube   (v_thrown : Int32) (v_cubes : Int32) (v_cube : (Nat → Int32)) (x1 : Int32) (x2 : Int32) (x3 : Int32) : Option (Int32 × Int32 × Int32 × (Nat → Int32)) :=
  if x1 < 0 then
  (f_X5_cube_41 (0 : Int32) v_cubes v_cube)
  else
  (if (2 : Int32) < x1 then
  (f_X5_cube_41 (0 : Int32) v_cubes v_cube)
  else
  (if x2 < 0 then
  (f_X5_cube_41 (0 : Int32) v_cubes v_cube)
  else
  (if (2 : Int32) < x2 then
  (f_X5_cube_41 (0 : Int32) v_cubes v_cube)
  else
  (if x3 < 0 then
  (f_X5_cube_41 (0 : Int32) v_cubes v_cube)
  else
  (if (2 : Int32) < x3 then
  (f_X5_cube_41 (0 : Int32) v_cubes v_cube)
  else
  (if v_cubes = (7 : Int32) then
  (f_X5_cube_41 (0 : Int32) v_cubes v_cube)
  else
  (f_X5_cube_58 1000000 (0 : Int32) v_cubes v_cube ((((9 : Int32) * x3) + ((3 : Int32) * x2)) + x1) (0 : Int32))))))))
abbrev qc_X5_cube (A : Nat → Prop) (dC : Nat → ClassId) (dI : Nat → Nat → Nat) (cB cI cJ cZ : ClassId) (a_this a_cube a_times a_bits a_colours a_laid a_takes a_choice a_isChosen a_column a_next a_barredAt a_ways a_own a_goes a_rowGoes a_mark a_count a_colour : Nat) (v_columns : Int32) (v_needed : Int32) (v_rows : Int32) (v_placements : Int32) (v_taken : Int32) (v_chosen : Int32) (v_nodes : Int32) (v_found : Int32) (v_isSpent : Int32) (v_told : Int32) (v_kept : Int32) (v_turns : Int32) (v_toldNodes : Int32) (out : Int32 × Int32 × Int32 × (Nat → Int32)) : Array Value → State → Outcome → State → Prop := va_Qi (fun (r : Int32) (u : Int32 × Int32 × (Nat → Int32)) => r = out.1 ∧ u = out.2) (fun (u : Int32 × Int32 × (Nat → Int32)) (t : State) => va_P (dC, dI) vwCl (ws_X5_cube cB cI cJ cZ a_this a_cube a_times a_bits a_colours a_laid a_takes a_choice a_isChosen a_column a_next a_barredAt a_ways a_own a_goes a_rowGoes a_mark a_count a_colour u.1 v_columns v_needed v_rows u.2.1 v_placements v_taken v_chosen v_nodes v_found v_isSpent v_told v_kept v_turns v_toldNodes u.2.2) t.heap ∧ va_K (dC, dI) vwCl (tysG cB cI cJ cZ) t ∧ va_D A (ws_X5_cube cB cI cJ cZ a_this a_cube a_times a_bits a_colours a_laid a_takes a_choice a_isChosen a_column a_next a_barredAt a_ways a_own a_goes a_rowGoes a_mark a_count a_colour u.1 v_columns v_needed v_rows u.2.1 v_placements v_taken v_chosen v_nodes v_found v_isSpent v_told v_kept v_turns v_toldNodes u.2.2)) A
abbrev g_X5_cube_41 (p : Program) (l : Launch) (e : Env) (s : State) (m : MethodId) (args : Array Value) (below : List Frame) (meth : Method) (c : Code) (A : Nat → Prop) (dC : Nat → ClassId) (dI : Nat → Nat → Nat) (cB cI cJ cZ : ClassId) (a_this a_cube a_times a_bits a_colours a_laid a_takes a_choice a_isChosen a_column a_next a_barredAt a_ways a_own a_goes a_rowGoes a_mark a_count a_colour : Nat) (v_columns : Int32) (v_needed : Int32) (v_rows : Int32) (v_placements : Int32) (v_taken : Int32) (v_chosen : Int32) (v_nodes : Int32) (v_found : Int32) (v_isSpent : Int32) (v_told : Int32) (v_kept : Int32) (v_turns : Int32) (v_toldNodes : Int32) (out : Int32 × Int32 × Int32 × (Nat → Int32)) (k : Int32 → Int32 → (Nat → Int32) → Option (Int32 × Int32 × Int32 × (Nat → Int32))) : Prop := ∀ (v_thrown : Int32) (v_cubes : Int32) (v_cube : (Nat → Int32)), k v_thrown v_cubes v_cube = some out → ∀ (H : Heap) (locs : List Loc), va_P (dC, dI) vwCl (ws_X5_cube cB cI cJ cZ a_this a_cube a_times a_bits a_colours a_laid a_takes a_choice a_isChosen a_column a_next a_barredAt a_ways a_own a_goes a_rowGoes a_mark a_count a_colour v_thrown v_columns v_needed v_rows v_cubes v_placements v_taken v_chosen v_nodes v_found v_isSpent v_told v_kept v_turns v_toldNodes v_cube) H → va_D A (ws_X5_cube cB cI cJ cZ a_this a_cube a_times a_bits a_colours a_laid a_takes a_choice a_isChosen a_column a_next a_barredAt a_ways a_own a_goes a_rowGoes a_mark a_count a_colour v_thrown v_columns v_needed v_rows v_cubes v_placements v_taken v_chosen v_nodes v_found v_isSpent v_told v_kept v_turns v_toldNodes v_cube) → va_S A s.heap H locs → ∀ (ls : Array Slot), lv_has ls 6 [] → W p l e (headSpec wsX5_cube rm_X5_cube).room s m args below meth c H locs 0 0 (MQ below (qc_X5_cube A dC dI cB cI cJ cZ a_this a_cube a_times a_bits a_colours a_laid a_takes a_choice a_isChosen a_column a_next a_barredAt a_ways a_own a_goes a_rowGoes a_mark a_count a_colour v_columns v_needed v_rows v_placements v_taken v_chosen v_nodes v_found v_isSpent v_told v_kept v_turns v_toldNodes out) args s 0 0 A) (F0 m 41 ls [])
abbrev g_X5_cube_58 (p : Program) (l : Launch) (e : Env) (s : State) (m : MethodId) (args : Array Value) (below : List Frame) (meth : Method) (c : Code) (A : Nat → Prop) (dC : Nat → ClassId) (dI : Nat → Nat → Nat) (cB cI cJ cZ : ClassId) (a_this a_cube a_times a_bits a_colours a_laid a_takes a_choice a_isChosen a_column a_next a_barredAt a_ways a_own a_goes a_rowGoes a_mark a_count a_colour : Nat) (v_columns : Int32) (v_needed : Int32) (v_rows : Int32) (v_placements : Int32) (v_taken : Int32) (v_chosen : Int32) (v_nodes : Int32) (v_found : Int32) (v_isSpent : Int32) (v_told : Int32) (v_kept : Int32) (v_turns : Int32) (v_toldNodes : Int32) (out : Int32 × Int32 × Int32 × (Nat → Int32)) (k : Int32 → Int32 → (Nat → Int32) → Int32 → Int32 → Option (Int32 × Int32 × Int32 × (Nat → Int32))) : Prop := ∀ (v_thrown : Int32) (v_cubes : Int32) (v_cube : (Nat → Int32)) (x4 : Int32) (x5 : Int32), k v_thrown v_cubes v_cube x4 x5 = some out → ∀ (H : Heap) (locs : List Loc), va_P (dC, dI) vwCl (ws_X5_cube cB cI cJ cZ a_this a_cube a_times a_bits a_colours a_laid a_takes a_choice a_isChosen a_column a_next a_barredAt a_ways a_own a_goes a_rowGoes a_mark a_count a_colour v_thrown v_columns v_needed v_rows v_cubes v_placements v_taken v_chosen v_nodes v_found v_isSpent v_told v_kept v_turns v_toldNodes v_cube) H → va_D A (ws_X5_cube cB cI cJ cZ a_this a_cube a_times a_bits a_colours a_laid a_takes a_choice a_isChosen a_column a_next a_barredAt a_ways a_own a_goes a_rowGoes a_mark a_count a_colour v_thrown v_columns v_needed v_rows v_cubes v_placements v_taken v_chosen v_nodes v_found v_isSpent v_told v_kept v_turns v_toldNodes v_cube) → va_S A s.heap H locs → ∀ (ls : Array Slot), lv_has ls 6 [(0, .ref a_this), (4, .int x4), (5, .int x5)] → W p l e (headSpec wsX5_cube rm_X5_cube).room s m args below meth c H locs 0 0 (MQ below (qc_X5_cube A dC dI cB cI cJ cZ a_this a_cube a_times a_bits a_colours a_laid a_takes a_choice a_isChosen a_column a_next a_barredAt a_ways a_own a_goes a_rowGoes a_mark a_count a_colour v_columns v_needed v_rows v_placements v_taken v_chosen v_nodes v_found v_isSpent v_told v_kept v_turns v_toldNodes out) args s 0 0 A) (F0 m 58 ls [])
abbrev g_X5_cube_0 (p : Program) (l : Launch) (e : Env) (s : State) (m : MethodId) (args : Array Value) (below : List Frame) (meth : Method) (c : Code) (A : Nat → Prop) (dC : Nat → ClassId) (dI : Nat → Nat → Nat) (cB cI cJ cZ : ClassId) (a_this a_cube a_times a_bits a_colours a_laid a_takes a_choice a_isChosen a_column a_next a_barredAt a_ways a_own a_goes a_rowGoes a_mark a_count a_colour : Nat) (v_columns : Int32) (v_needed : Int32) (v_rows : Int32) (v_placements : Int32) (v_taken : Int32) (v_chosen : Int32) (v_nodes : Int32) (v_found : Int32) (v_isSpent : Int32) (v_told : Int32) (v_kept : Int32) (v_turns : Int32) (v_toldNodes : Int32) (out : Int32 × Int32 × Int32 × (Nat → Int32)) (k : Int32 → Int32 → (Nat → Int32) → Int32 → Int32 → Int32 → Option (Int32 × Int32 × Int32 × (Nat → Int32))) : Prop := ∀ (v_thrown : Int32) (v_cubes : Int32) (v_cube : (Nat → Int32)) (x1 : Int32) (x2 : Int32) (x3 : Int32), k v_thrown v_cubes v_cube x1 x2 x3 = some out → ∀ (H : Heap) (locs : List Loc), va_P (dC, dI) vwCl (ws_X5_cube cB cI cJ cZ a_this a_cube a_times a_bits a_colours a_laid a_takes a_choice a_isChosen a_column a_next a_barredAt a_ways a_own a_goes a_rowGoes a_mark a_count a_colour v_thrown v_columns v_needed v_rows v_cubes v_placements v_taken v_chosen v_nodes v_found v_isSpent v_told v_kept v_turns v_toldNodes v_cube) H → va_D A (ws_X5_cube cB cI cJ cZ a_this a_cube a_times a_bits a_colours a_laid a_takes a_choice a_isChosen a_column a_next a_barredAt a_ways a_own a_goes a_rowGoes a_mark a_count a_colour v_thrown v_columns v_needed v_rows v_cubes v_placements v_taken v_chosen v_nodes v_found v_isSpent v_told v_kept v_turns v_toldNodes v_cube) → va_S A s.heap H locs → ∀ (ls : Array Slot), lv_has ls 6 [(0, .ref a_this), (1, .int x1), (2, .int x2), (3, .int x3)] → W p l e (headSpec wsX5_cube rm_X5_cube).room s m args below meth c H locs 0 0 (MQ below (qc_X5_cube A dC dI cB cI cJ cZ a_this a_cube a_times a_bits a_colours a_laid a_takes a_choice a_isChosen a_column a_next a_barredAt a_ways a_own a_goes a_rowGoes a_mark a_count a_colour v_columns v_needed v_rows v_placements v_taken v_chosen v_nodes v_found v_isSpent v_told v_kept v_turns v_toldNodes out) args s 0 0 A) (F0 m 0 ls [])
set_option maxHeartbeats 4000000 in
set_option maxRecDepth 100000 in
theorem w_X5_cube_41 {p : Program} {l : Launch} {e : Env} {s : State} {m : MethodId} {args : Array Value} {below : List Frame} {meth : Method} {c : Code} {A : Nat → Prop} {dC : Nat → ClassId} {dI : Nat → Nat → Nat} {cB cI cJ cZ : ClassId} {a_this a_cube a_times a_bits a_colours a_laid a_takes a_choice a_isChosen a_column a_next a_barredAt a_ways a_own a_goes a_rowGoes a_mark a_count a_colour : Nat} {v_columns : Int32} {v_needed : Int32} {v_rows : Int32} {v_placements : Int32} {v_taken : Int32} {v_chosen : Int32} {v_nodes : Int32} {v_found : Int32} {v_isSpent : Int32} {v_told : Int32} {v_kept : Int32} {v_turns : Int32} {v_toldNodes : Int32} {out : Int32 × Int32 × Int32 × (Nat → Int32)} (C0 : Cx RX5 cX5_cube (some .boolean) 6 wsX5_cube p s m args meth c A) (hK : va_K (dC, dI) vwCl (tysG cB cI cJ cZ) s)  : g_X5_cube_41 p l e s m args below meth c A dC dI cB cI cJ cZ a_this a_cube a_times a_bits a_colours a_laid a_takes a_choice a_isChosen a_column a_next a_barredAt a_ways a_own a_goes a_rowGoes a_mark a_count a_colour v_columns v_needed v_rows v_placements v_taken v_chosen v_nodes v_found v_isSpent v_told v_kept v_turns v_toldNodes out (f_X5_cube_41  ) := by
  obtain ⟨hx, hb, hr, hml, hown, hts, hlocks, hA⟩ := id C0
  intro v_thrown v_cubes v_cube hf H locs hP hD hS ls hl
  replace hf : ((some (((0 : Int32), (v_thrown, v_cubes, v_cube)))) : Option (Int32 × Int32 × Int32 × (Nat → Int32))) = some out := hf
  refine lv_iconst (v := 0) hx hb dX5_cube_41 (by decide) ?_
  have h9 := Option.some.inj hf
  have h8 := congrArg Prod.fst h9
  have h7 := congrArg Prod.snd h9
  exact W.zret (v := (0 : Int32)) hx hb hr rfl (fun t ht hW => ⟨⟨(0 : Int32), (v_thrown, v_cubes, v_cube), rfl, ⟨h8, h7⟩, by rw [ht]; exact hP, va_K.moved hW.alike hK, hD⟩, hS.F ht⟩) hS.2.2 dX5_cube_42
set_option maxHeartbeats 4000000 in
set_option maxRecDepth 100000 in
theorem w_X5_cube_58 {p : Program} {l : Launch} {e : Env} {s : State} {m : MethodId} {args : Array Value} {below : List Frame} {meth : Method} {c : Code} {A : Nat → Prop} {dC : Nat → ClassId} {dI : Nat → Nat → Nat} {cB cI cJ cZ : ClassId} {a_this a_cube a_times a_bits a_colours a_laid a_takes a_choice a_isChosen a_column a_next a_barredAt a_ways a_own a_goes a_rowGoes a_mark a_count a_colour : Nat} {v_columns : Int32} {v_needed : Int32} {v_rows : Int32} {v_placements : Int32} {v_taken : Int32} {v_chosen : Int32} {v_nodes : Int32} {v_found : Int32} {v_isSpent : Int32} {v_told : Int32} {v_kept : Int32} {v_turns : Int32} {v_toldNodes : Int32} {out : Int32 × Int32 × Int32 × (Nat → Int32)} (C0 : Cx RX5 cX5_cube (some .boolean) 6 wsX5_cube p s m args meth c A) (hK : va_K (dC, dI) vwCl (tysG cB cI cJ cZ) s)  : ∀ n : Nat, g_X5_cube_58 p l e s m args below meth c A dC dI cB cI cJ cZ a_this a_cube a_times a_bits a_colours a_laid a_takes a_choice a_isChosen a_column a_next a_barredAt a_ways a_own a_goes a_rowGoes a_mark a_count a_colour v_columns v_needed v_rows v_placements v_taken v_chosen v_nodes v_found v_isSpent v_told v_kept v_turns v_toldNodes out (f_X5_cube_58   n) := by
  obtain ⟨hx, hb, hr, hml, hown, hts, hlocks, hA⟩ := id C0
  intro n
  induction n with
  | zero =>
    intro v_thrown v_cubes v_cube x4 x5 hf H locs hP hD hS ls hl
    exact nomatch (show (none : Option (Int32 × Int32 × Int32 × (Nat → Int32))) = some out from hf)
  | succ n ih =>
    intro v_thrown v_cubes v_cube x4 x5 hf H locs hP hD hS ls hl
    replace hf : ((if v_cubes ≤ x5 then
  (if (v_cubes < 0 ∨ 7 ≤ Int32.toNatClampNeg v_cubes) then none else
  some (((1 : Int32), (v_thrown, (v_cubes + (1 : Int32)), (upd v_cube (Int32.toNatClampNeg v_cubes) x4)))))
  else
  (if (x5 < 0 ∨ 7 ≤ Int32.toNatClampNeg x5) then none else
  if (v_cube (Int32.toNatClampNeg x5)) = x4 then
  (some (((0 : Int32), (v_thrown, v_cubes, v_cube))))
  else
  (f_X5_cube_58 n v_thrown v_cubes v_cube x4 (x5 + 1)))) : Option (Int32 × Int32 × Int32 × (Nat → Int32))) = some out := hf
    refine lv_iload hx hb dX5_cube_58 (lv_at hl 2 rfl) ?_
    refine lv_aload_n hx hb dX5_cube_60 rfl (lv_at hl 0 rfl) ?_
    refine va_get (D := (dC, dI)) (ci := 6) (v := .int v_cubes) (C := RX5) (T := TX5) (N := 33) hx hb hts in_X5_cube_X5 hown hK hP 0 rfl rfl 7 (by decide) (hts (.fieldLink RX5 104 "LinkedCoversModel" "cubes" "I") lk_X5_cube_f104) (fun _ h9 => h9) rfl dX5_cube_61 ?_
    refine lv_icmp_ge (tgt := 87) hx hb dX5_cube_64 (by decide) (fun c_1 => ?_) (fun c_1 => ?_)
    · replace hf := (if_pos c_1).symm.trans hf
      refine lv_aload_n hx hb dX5_cube_87 rfl (lv_at hl 0 rfl) ?_
      refine va_get (D := (dC, dI)) (ci := 6) (v := .ref a_cube) (C := RX5) (T := TX5) (N := 33) hx hb hts in_X5_cube_X5 hown hK hP 0 rfl rfl 8 (by decide) (hts (.fieldLink RX5 19 "LinkedCoversModel" "cube" "[I") lk_X5_cube_f19) (fun _ h9 => h9) rfl dX5_cube_88 ?_
      refine lv_aload_n hx hb dX5_cube_91 rfl (lv_at hl 0 rfl) ?_
      refine va_get (D := (dC, dI)) (ci := 6) (v := .int v_cubes) (C := RX5) (T := TX5) (N := 33) hx hb hts in_X5_cube_X5 hown hK hP 0 rfl rfl 7 (by decide) (hts (.fieldLink RX5 104 "LinkedCoversModel" "cubes" "I") lk_X5_cube_f104) (fun _ h9 => h9) rfl dX5_cube_92 ?_
      refine lv_iload hx hb dX5_cube_95 (lv_at hl 1 rfl) ?_
      obtain ⟨h_2, hf⟩ := gd_ck hf
      refine va_iast hx hb hK hP hD hS 1 1 rfl rfl h_2 dX5_cube_97 (fun H locs hP hD hS => ?_)
      have hP : va_P (dC, dI) vwCl (ws_X5_cube cB cI cJ cZ a_this a_cube a_times a_bits a_colours a_laid a_takes a_choice a_isChosen a_column a_next a_barredAt a_ways a_own a_goes a_rowGoes a_mark a_count a_colour v_thrown v_columns v_needed v_rows v_cubes v_placements v_taken v_chosen v_nodes v_found v_isSpent v_told v_kept v_turns v_toldNodes (upd v_cube (Int32.toNatClampNeg v_cubes) x4)) H := hP
      have hD : va_D A (ws_X5_cube cB cI cJ cZ a_this a_cube a_times a_bits a_colours a_laid a_takes a_choice a_isChosen a_column a_next a_barredAt a_ways a_own a_goes a_rowGoes a_mark a_count a_colour v_thrown v_columns v_needed v_rows v_cubes v_placements v_taken v_chosen v_nodes v_found v_isSpent v_told v_kept v_turns v_toldNodes (upd v_cube (Int32.toNatClampNeg v_cubes) x4)) := hD
      refine lv_aload_n hx hb dX5_cube_98 rfl (lv_at hl 0 rfl) ?_
      refine lv_dup hx hb dX5_cube_99 rfl ?_
      refine va_get (D := (dC, dI)) (ci := 6) (v := .int v_cubes) (C := RX5) (T := TX5) (N := 33) hx hb hts in_X5_cube_X5 hown hK hP 0 rfl rfl 7 (by decide) (hts (.fieldLink RX5 104 "LinkedCoversModel" "cubes" "I") lk_X5_cube_f104) (fun _ h9 => h9) rfl dX5_cube_100 ?_
      refine lv_iconst (v := 1) hx hb dX5_cube_103 (by decide) ?_
      refine lv_iadd hx hb dX5_cube_104 ?_
      refine va_put (D := (dC, dI)) (ci := 6) (v := .int (v_cubes + (1 : Int32))) (ty := .int) (C := RX5) (T := TX5) (N := 33) hx hb hts in_X5_cube_X5 tyX5 tyX5_ok nmX5 hown hK hP hD hS 0 rfl rfl 7 (by decide) (hts (.fieldLink RX5 104 "LinkedCoversModel" "cubes" "I") lk_X5_cube_f104) (fun _ h9 => h9) rfl (by decide +kernel) rfl rfl (Nat.le_of_ble_eq_true rfl) dX5_cube_105 (fun H locs hP hD hS => ?_)
      have hP : va_P (dC, dI) vwCl (ws_X5_cube cB cI cJ cZ a_this a_cube a_times a_bits a_colours a_laid a_takes a_choice a_isChosen a_column a_next a_barredAt a_ways a_own a_goes a_rowGoes a_mark a_count a_colour v_thrown v_columns v_needed v_rows (v_cubes + (1 : Int32)) v_placements v_taken v_chosen v_nodes v_found v_isSpent v_told v_kept v_turns v_toldNodes (upd v_cube (Int32.toNatClampNeg v_cubes) x4)) H := hP
      have hD : va_D A (ws_X5_cube cB cI cJ cZ a_this a_cube a_times a_bits a_colours a_laid a_takes a_choice a_isChosen a_column a_next a_barredAt a_ways a_own a_goes a_rowGoes a_mark a_count a_colour v_thrown v_columns v_needed v_rows (v_cubes + (1 : Int32)) v_placements v_taken v_chosen v_nodes v_found v_isSpent v_told v_kept v_turns v_toldNodes (upd v_cube (Int32.toNatClampNeg v_cubes) x4)) := hD
      refine lv_iconst (v := 1) hx hb dX5_cube_108 (by decide) ?_
      have h9 := Option.some.inj hf
      have h8 := congrArg Prod.fst h9
      have h7 := congrArg Prod.snd h9
      exact W.zret (v := (1 : Int32)) hx hb hr rfl (fun t ht hW => ⟨⟨(1 : Int32), (v_thrown, (v_cubes + (1 : Int32)), (upd v_cube (Int32.toNatClampNeg v_cubes) x4)), rfl, ⟨h8, h7⟩, by rw [ht]; exact hP, va_K.moved hW.alike hK, hD⟩, hS.F ht⟩) hS.2.2 dX5_cube_109
    · replace hf := (if_neg c_1).symm.trans hf
      refine lv_aload_n hx hb dX5_cube_67 rfl (lv_at hl 0 rfl) ?_
      refine va_get (D := (dC, dI)) (ci := 6) (v := .ref a_cube) (C := RX5) (T := TX5) (N := 33) hx hb hts in_X5_cube_X5 hown hK hP 0 rfl rfl 8 (by decide) (hts (.fieldLink RX5 19 "LinkedCoversModel" "cube" "[I") lk_X5_cube_f19) (fun _ h9 => h9) rfl dX5_cube_68 ?_
      refine lv_iload hx hb dX5_cube_71 (lv_at hl 2 rfl) ?_
      obtain ⟨h_3, hf⟩ := gd_ck hf
      refine va_iald hx hb hK hP 1 1 rfl rfl h_3 dX5_cube_73 ?_
      refine lv_iload hx hb dX5_cube_74 (lv_at hl 1 rfl) ?_
      refine lv_icmp_ne (tgt := 81) hx hb dX5_cube_76 (by decide) (fun c_4 => ?_) (fun c_4 => ?_)
      · replace hf := (if_neg c_4).symm.trans hf
        refine lv_iinc (v := (x5 + 1)) (lv' := [(5, .int (x5 + 1)), (0, .ref a_this), (4, .int x4)]) hx hb dX5_cube_81 hl (k := 2) rfl rfl (by decide) rfl (fun ls hl => ?_)
        refine lv_goto (tgt := 58) hx hb dX5_cube_84 (by decide) ?_
        exact ih v_thrown v_cubes v_cube x4 (x5 + 1) hf _ _ hP hD hS ls (lv_sub hl [1, 2, 0] rfl)
      · replace hf := (if_pos c_4).symm.trans hf
        refine lv_iconst (v := 0) hx hb dX5_cube_79 (by decide) ?_
        have h9 := Option.some.inj hf
        have h8 := congrArg Prod.fst h9
        have h7 := congrArg Prod.snd h9
        exact W.zret (v := (0 : Int32)) hx hb hr rfl (fun t ht hW => ⟨⟨(0 : Int32), (v_thrown, v_cubes, v_cube), rfl, ⟨h8, h7⟩, by rw [ht]; exact hP, va_K.moved hW.alike hK, hD⟩, hS.F ht⟩) hS.2.2 dX5_cube_80
set_option maxHeartbeats 4000000 in
set_option maxRecDepth 100000 in
theorem w_X5_cube_0 {p : Program} {l : Launch} {e : Env} {s : State} {m : MethodId} {args : Array Value} {below : List Frame} {meth : Method} {c : Code} {A : Nat → Prop} {dC : Nat → ClassId} {dI : Nat → Nat → Nat} {cB cI cJ cZ : ClassId} {a_this a_cube a_times a_bits a_colours a_laid a_takes a_choice a_isChosen a_column a_next a_barredAt a_ways a_own a_goes a_rowGoes a_mark a_count a_colour : Nat} {v_columns : Int32} {v_needed : Int32} {v_rows : Int32} {v_placements : Int32} {v_taken : Int32} {v_chosen : Int32} {v_nodes : Int32} {v_found : Int32} {v_isSpent : Int32} {v_told : Int32} {v_kept : Int32} {v_turns : Int32} {v_toldNodes : Int32} {out : Int32 × Int32 × Int32 × (Nat → Int32)} (C0 : Cx RX5 cX5_cube (some .boolean) 6 wsX5_cube p s m args meth c A) (hK : va_K (dC, dI) vwCl (tysG cB cI cJ cZ) s)  : g_X5_cube_0 p l e s m args below meth c A dC dI cB cI cJ cZ a_this a_cube a_times a_bits a_colours a_laid a_takes a_choice a_isChosen a_column a_next a_barredAt a_ways a_own a_goes a_rowGoes a_mark a_count a_colour v_columns v_needed v_rows v_placements v_taken v_chosen v_nodes v_found v_isSpent v_told v_kept v_turns v_toldNodes out (f_X5_cube  ) := by
  obtain ⟨hx, hb, hr, hml, hown, hts, hlocks, hA⟩ := id C0
  intro v_thrown v_cubes v_cube x1 x2 x3 hf H locs hP hD hS ls hl
  replace hf : ((if x1 < 0 then
  (f_X5_cube_41 (0 : Int32) v_cubes v_cube)
  else
  (if (2 : Int32) < x1 then
  (f_X5_cube_41 (0 : Int32) v_cubes v_cube)
  else
  (if x2 < 0 then
  (f_X5_cube_41 (0 : Int32) v_cubes v_cube)
  else
  (if (2 : Int32) < x2 then
  (f_X5_cube_41 (0 : Int32) v_cubes v_cube)
  else
  (if x3 < 0 then
  (f_X5_cube_41 (0 : Int32) v_cubes v_cube)
  else
  (if (2 : Int32) < x3 then
  (f_X5_cube_41 (0 : Int32) v_cubes v_cube)
  else
  (if v_cubes = (7 : Int32) then
  (f_X5_cube_41 (0 : Int32) v_cubes v_cube)
  else
  (f_X5_cube_58 1000000 (0 : Int32) v_cubes v_cube ((((9 : Int32) * x3) + ((3 : Int32) * x2)) + x1) (0 : Int32))))))))) : Option (Int32 × Int32 × Int32 × (Nat → Int32))) = some out := hf
  refine lv_aload_n hx hb dX5_cube_0 rfl (lv_at hl 0 rfl) ?_
  refine lv_iconst (v := 0) hx hb dX5_cube_1 (by decide) ?_
  refine va_put (D := (dC, dI)) (ci := 6) (v := .int (0 : Int32)) (ty := .int) (C := RX5) (T := TX5) (N := 33) hx hb hts in_X5_cube_X5 tyX5 tyX5_ok nmX5 hown hK hP hD hS 0 rfl rfl 0 (by decide) (hts (.fieldLink RX5 73 "LinkedCoversModel" "thrown" "I") lk_X5_cube_f73) (fun _ h9 => h9) rfl (by decide +kernel) rfl rfl (Nat.le_of_ble_eq_true rfl) dX5_cube_2 (fun H locs hP hD hS => ?_)
  have hP : va_P (dC, dI) vwCl (ws_X5_cube cB cI cJ cZ a_this a_cube a_times a_bits a_colours a_laid a_takes a_choice a_isChosen a_column a_next a_barredAt a_ways a_own a_goes a_rowGoes a_mark a_count a_colour (0 : Int32) v_columns v_needed v_rows v_cubes v_placements v_taken v_chosen v_nodes v_found v_isSpent v_told v_kept v_turns v_toldNodes v_cube) H := hP
  have hD : va_D A (ws_X5_cube cB cI cJ cZ a_this a_cube a_times a_bits a_colours a_laid a_takes a_choice a_isChosen a_column a_next a_barredAt a_ways a_own a_goes a_rowGoes a_mark a_count a_colour (0 : Int32) v_columns v_needed v_rows v_cubes v_placements v_taken v_chosen v_nodes v_found v_isSpent v_told v_kept v_turns v_toldNodes v_cube) := hD
  refine lv_iload_n hx hb dX5_cube_5 rfl (lv_at hl 1 rfl) ?_
  refine lv_if_lt (tgt := 41) hx hb dX5_cube_6 (by decide) (fun c_5 => ?_) (fun c_5 => ?_)
  · replace hf := (if_pos c_5).symm.trans hf
    exact w_X5_cube_41 C0 hK (0 : Int32) v_cubes v_cube hf _ _ hP hD hS ls (lv_sub hl [] rfl)
  · replace hf := (if_neg c_5).symm.trans hf
    refine lv_iload_n hx hb dX5_cube_9 rfl (lv_at hl 1 rfl) ?_
    refine lv_iconst (v := 2) hx hb dX5_cube_10 (by decide) ?_
    refine lv_icmp_gt (tgt := 41) hx hb dX5_cube_11 (by decide) (fun c_6 => ?_) (fun c_6 => ?_)
    · replace hf := (if_pos c_6).symm.trans hf
      exact w_X5_cube_41 C0 hK (0 : Int32) v_cubes v_cube hf _ _ hP hD hS ls (lv_sub hl [] rfl)
    · replace hf := (if_neg c_6).symm.trans hf
      refine lv_iload_n hx hb dX5_cube_14 rfl (lv_at hl 2 rfl) ?_
      refine lv_if_lt (tgt := 41) hx hb dX5_cube_15 (by decide) (fun c_7 => ?_) (fun c_7 => ?_)
      · replace hf := (if_pos c_7).symm.trans hf
        exact w_X5_cube_41 C0 hK (0 : Int32) v_cubes v_cube hf _ _ hP hD hS ls (lv_sub hl [] rfl)
      · replace hf := (if_neg c_7).symm.trans hf
        refine lv_iload_n hx hb dX5_cube_18 rfl (lv_at hl 2 rfl) ?_
        refine lv_iconst (v := 2) hx hb dX5_cube_19 (by decide) ?_
        refine lv_icmp_gt (tgt := 41) hx hb dX5_cube_20 (by decide) (fun c_8 => ?_) (fun c_8 => ?_)
        · replace hf := (if_pos c_8).symm.trans hf
          exact w_X5_cube_41 C0 hK (0 : Int32) v_cubes v_cube hf _ _ hP hD hS ls (lv_sub hl [] rfl)
        · replace hf := (if_neg c_8).symm.trans hf
          refine lv_iload_n hx hb dX5_cube_23 rfl (lv_at hl 3 rfl) ?_
          refine lv_if_lt (tgt := 41) hx hb dX5_cube_24 (by decide) (fun c_9 => ?_) (fun c_9 => ?_)
          · replace hf := (if_pos c_9).symm.trans hf
            exact w_X5_cube_41 C0 hK (0 : Int32) v_cubes v_cube hf _ _ hP hD hS ls (lv_sub hl [] rfl)
          · replace hf := (if_neg c_9).symm.trans hf
            refine lv_iload_n hx hb dX5_cube_27 rfl (lv_at hl 3 rfl) ?_
            refine lv_iconst (v := 2) hx hb dX5_cube_28 (by decide) ?_
            refine lv_icmp_gt (tgt := 41) hx hb dX5_cube_29 (by decide) (fun c_10 => ?_) (fun c_10 => ?_)
            · replace hf := (if_pos c_10).symm.trans hf
              exact w_X5_cube_41 C0 hK (0 : Int32) v_cubes v_cube hf _ _ hP hD hS ls (lv_sub hl [] rfl)
            · replace hf := (if_neg c_10).symm.trans hf
              refine lv_aload_n hx hb dX5_cube_32 rfl (lv_at hl 0 rfl) ?_
              refine va_get (D := (dC, dI)) (ci := 6) (v := .int v_cubes) (C := RX5) (T := TX5) (N := 33) hx hb hts in_X5_cube_X5 hown hK hP 0 rfl rfl 7 (by decide) (hts (.fieldLink RX5 104 "LinkedCoversModel" "cubes" "I") lk_X5_cube_f104) (fun _ h9 => h9) rfl dX5_cube_33 ?_
              refine lv_bipush (v := 7) hx hb dX5_cube_36 (by decide) ?_
              refine lv_icmp_ne (tgt := 43) hx hb dX5_cube_38 (by decide) (fun c_11 => ?_) (fun c_11 => ?_)
              · replace hf := (if_neg c_11).symm.trans hf
                refine lv_bipush (v := 9) hx hb dX5_cube_43 (by decide) ?_
                refine lv_iload_n hx hb dX5_cube_45 rfl (lv_at hl 3 rfl) ?_
                refine lv_imul hx hb dX5_cube_46 ?_
                refine lv_iconst (v := 3) hx hb dX5_cube_47 (by decide) ?_
                refine lv_iload_n hx hb dX5_cube_48 rfl (lv_at hl 2 rfl) ?_
                refine lv_imul hx hb dX5_cube_49 ?_
                refine lv_iadd hx hb dX5_cube_50 ?_
                refine lv_iload_n hx hb dX5_cube_51 rfl (lv_at hl 1 rfl) ?_
                refine lv_iadd hx hb dX5_cube_52 ?_
                refine lv_istore (lv' := [(4, .int ((((9 : Int32) * x3) + ((3 : Int32) * x2)) + x1)), (0, .ref a_this), (1, .int x1), (2, .int x2), (3, .int x3)]) hx hb dX5_cube_53 hl (by decide) rfl (fun ls hl => ?_)
                refine lv_iconst (v := 0) hx hb dX5_cube_55 (by decide) ?_
                refine lv_istore (lv' := [(5, .int (0 : Int32)), (4, .int ((((9 : Int32) * x3) + ((3 : Int32) * x2)) + x1)), (0, .ref a_this), (1, .int x1), (2, .int x2), (3, .int x3)]) hx hb dX5_cube_56 hl (by decide) rfl (fun ls hl => ?_)
                exact w_X5_cube_58 C0 hK 1000000 (0 : Int32) v_cubes v_cube ((((9 : Int32) * x3) + ((3 : Int32) * x2)) + x1) (0 : Int32) hf _ _ hP hD hS ls (lv_sub hl [2, 1, 0] rfl)
              · replace hf := (if_pos c_11).symm.trans hf
                exact w_X5_cube_41 C0 hK (0 : Int32) v_cubes v_cube hf _ _ hP hD hS ls (lv_sub hl [] rfl)
theorem nd_X5_cube : yX5_cube.cls ≠ "java/lang/invoke/MethodHandle" ∧ yX5_cube.cls ≠ "java/lang/invoke/VarHandle" ∧ (parseMethodDescriptor yX5_cube.desc).map (fun d => d.parameters.length) = some 3 := by decide +kernel
set_option maxHeartbeats 4000000 in
set_option maxRecDepth 100000 in
theorem c_X5_cube (l : Launch) (dC : Nat → ClassId) (dI : Nat → Nat → Nat) (cB cI cJ cZ : ClassId) (a_this a_cube a_times a_bits a_colours a_laid a_takes a_choice a_isChosen a_column a_next a_barredAt a_ways a_own a_goes a_rowGoes a_mark a_count a_colour : Nat) (sz : Nat) (v_thrown : Int32) (v_columns : Int32) (v_needed : Int32) (v_rows : Int32) (v_cubes : Int32) (v_placements : Int32) (v_taken : Int32) (v_chosen : Int32) (v_nodes : Int32) (v_found : Int32) (v_isSpent : Int32) (v_told : Int32) (v_kept : Int32) (v_turns : Int32) (v_toldNodes : Int32) (v_cube : (Nat → Int32)) (x1 : Int32) (x2 : Int32) (x3 : Int32) (out : Int32 × Int32 × Int32 × (Nat → Int32)) (hf : f_X5_cube  v_thrown v_cubes v_cube x1 x2 x3 = some out) : Met l yX5_cube wsX5_cube rm_X5_cube (va_Pc [.ref a_this, .int x1, .int x2, .int x3] (fun U => U.heap.size = sz ∧ va_P (dC, dI) vwCl (ws_X5_cube cB cI cJ cZ a_this a_cube a_times a_bits a_colours a_laid a_takes a_choice a_isChosen a_column a_next a_barredAt a_ways a_own a_goes a_rowGoes a_mark a_count a_colour v_thrown v_columns v_needed v_rows v_cubes v_placements v_taken v_chosen v_nodes v_found v_isSpent v_told v_kept v_turns v_toldNodes v_cube) U.heap ∧ va_K (dC, dI) vwCl (tysG cB cI cJ cZ) U ∧ va_D (fun _ => True) (ws_X5_cube cB cI cJ cZ a_this a_cube a_times a_bits a_colours a_laid a_takes a_choice a_isChosen a_column a_next a_barredAt a_ways a_own a_goes a_rowGoes a_mark a_count a_colour v_thrown v_columns v_needed v_rows v_cubes v_placements v_taken v_chosen v_nodes v_found v_isSpent v_told v_kept v_turns v_toldNodes v_cube))) (qc_X5_cube (va_A (ws_X5_cube cB cI cJ cZ a_this a_cube a_times a_bits a_colours a_laid a_takes a_choice a_isChosen a_column a_next a_barredAt a_ways a_own a_goes a_rowGoes a_mark a_count a_colour v_thrown v_columns v_needed v_rows v_cubes v_placements v_taken v_chosen v_nodes v_found v_isSpent v_told v_kept v_turns v_toldNodes v_cube) sz) dC dI cB cI cJ cZ a_this a_cube a_times a_bits a_colours a_laid a_takes a_choice a_isChosen a_column a_next a_barredAt a_ways a_own a_goes a_rowGoes a_mark a_count a_colour v_columns v_needed v_rows v_placements v_taken v_chosen v_nodes v_found v_isSpent v_told v_kept v_turns v_toldNodes out) 0 0 (va_A (ws_X5_cube cB cI cJ cZ a_this a_cube a_times a_bits a_colours a_laid a_takes a_choice a_isChosen a_column a_next a_barredAt a_ways a_own a_goes a_rowGoes a_mark a_count a_colour v_thrown v_columns v_needed v_rows v_cubes v_placements v_taken v_chosen v_nodes v_found v_isSpent v_told v_kept v_turns v_toldNodes v_cube) sz) := by
  refine Met.ofW (cc := cX5_cube) (maxL := 6) (ret := (some .boolean)) (by decide) rfl ?_
  intro p e s m args below meth c s₁ B hml hv
  obtain ⟨rfl, hsz, hP, hK, hD0⟩ := hv
  subst hsz
  have hD := hD0.self (sz := s.heap.size)
  generalize hAe : va_A (ws_X5_cube cB cI cJ cZ a_this a_cube a_times a_bits a_colours a_laid a_takes a_choice a_isChosen a_column a_next a_barredAt a_ways a_own a_goes a_rowGoes a_mark a_count a_colour v_thrown v_columns v_needed v_rows v_cubes v_placements v_taken v_chosen v_nodes v_found v_isSpent v_told v_kept v_turns v_toldNodes v_cube) s.heap.size = A at hD ⊢
  have hA : ∀ q : Nat, s.heap.size ≤ q → A q := fun q h => by rw [← hAe]; exact Or.inr h
  have hl := lv_entry ([.ref a_this, .int x1, .int x2, .int x3]) (n := 6) (Nat.le_of_ble_eq_true rfl)
  rw [lg_entry_eq]
  generalize (lg_sl ([.ref a_this, .int x1, .int x2, .int x3]) ++ List.replicate (6 - (lg_sl ([.ref a_this, .int x1, .int x2, .int x3])).length) Slot.unset).toArray = ls at hl ⊢
  have hl : lv_has ls 6 [(0, .ref a_this), (1, .int x1), (2, .int x2), (3, .int x3)] := hl
  exact w_X5_cube_0 ⟨B.exec, B.bytes, B.returns, hml, findClass_of_methodNamed B.named, atoms_spec (ws := wsX5_cube) B.pre, B.notSynchronized, hA⟩ hK v_thrown v_cubes v_cube x1 x2 x3 hf _ _ hP hD va_S.rf ls (lv_sub hl [0, 1, 2, 3] rfl)
