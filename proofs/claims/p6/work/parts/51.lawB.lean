-- L.cell([II)I: 10 instructions
abbrev ws_L_cell (cB cI cJ cZ : ClassId)  : va_W := []
abbrev rm_L_cell : Room := { frames := 0, cells := 0, slots := 0, locals := 0 }
def f_L_cell_13 (L : Nat) (xs : Nat → Int32)   (y0 : Int32) : Option (Int32 × Unit) :=
  some ((y0, ()))
def f_L_cell (L : Nat) (xs : Nat → Int32)   (x1 : Int32) : Option (Int32 × Unit) :=
  if (Int32.ofNat L) ≤ x1 then
  (f_L_cell_13 L xs (0 : Int32))
  else
  (if (x1 < 0 ∨ L ≤ Int32.toNatClampNeg x1) then none else
  f_L_cell_13 L xs (xs (Int32.toNatClampNeg x1)))
abbrev qc_L_cell (A : Nat → Prop) (dC : Nat → ClassId) (dI : Nat → Nat → Nat) (cB cI cJ cZ : ClassId)  (out : Int32 × Unit) : Array Value → State → Outcome → State → Prop := va_Qi (fun (r : Int32) (u : Unit) => r = out.1 ∧ u = out.2) (fun (u : Unit) (t : State) => va_P (dC, dI) vwCl (ws_L_cell cB cI cJ cZ  ) t.heap ∧ va_K (dC, dI) vwCl (tysG cB cI cJ cZ) t ∧ va_D A (ws_L_cell cB cI cJ cZ  )) A
abbrev g_L_cell_13 (p : Program) (l : Launch) (e : Env) (s : State) (m : MethodId) (args : Array Value) (below : List Frame) (meth : Method) (c : Code) (A : Nat → Prop) (dC : Nat → ClassId) (dI : Nat → Nat → Nat) (cB cI cJ cZ : ClassId) (b L : Nat) (xs : Nat → Int32)  (out : Int32 × Unit) (k : Int32 → Option (Int32 × Unit)) : Prop := ∀ (y0 : Int32), k y0 = some out → ∀ (H : Heap) (locs : List Loc), va_P (dC, dI) vwCl (ws_L_cell cB cI cJ cZ  ) H → va_D A (ws_L_cell cB cI cJ cZ  ) → va_S A s.heap H locs → ∀ (ls : Array Slot), lv_has ls 2 [] → W p l e (headSpec wsL_cell rm_L_cell).room s m args below meth c H locs 0 0 (MQ below (qc_L_cell A dC dI cB cI cJ cZ   out) args s 0 0 A) (F0 m 13 ls [.int y0])
abbrev g_L_cell_0 (p : Program) (l : Launch) (e : Env) (s : State) (m : MethodId) (args : Array Value) (below : List Frame) (meth : Method) (c : Code) (A : Nat → Prop) (dC : Nat → ClassId) (dI : Nat → Nat → Nat) (cB cI cJ cZ : ClassId) (b L : Nat) (xs : Nat → Int32)  (out : Int32 × Unit) (k : Int32 → Option (Int32 × Unit)) : Prop := ∀ (x1 : Int32), k x1 = some out → ∀ (H : Heap) (locs : List Loc), va_P (dC, dI) vwCl (ws_L_cell cB cI cJ cZ  ) H → va_D A (ws_L_cell cB cI cJ cZ  ) → va_S A s.heap H locs → ∀ (ls : Array Slot), lv_has ls 2 [(0, .ref b), (1, .int x1)] → W p l e (headSpec wsL_cell rm_L_cell).room s m args below meth c H locs 0 0 (MQ below (qc_L_cell A dC dI cB cI cJ cZ   out) args s 0 0 A) (F0 m 0 ls [])
set_option maxHeartbeats 4000000 in
set_option maxRecDepth 100000 in
theorem w_L_cell_13 {p : Program} {l : Launch} {e : Env} {s : State} {m : MethodId} {args : Array Value} {below : List Frame} {meth : Method} {c : Code} {A : Nat → Prop} {dC : Nat → ClassId} {dI : Nat → Nat → Nat} {cB cI cJ cZ : ClassId} {b L : Nat} {xs : Nat → Int32}  {out : Int32 × Unit} (C0 : Cx RL cL_cell (some .int) 2 wsL_cell p s m args meth c A) (hK : va_K (dC, dI) vwCl (tysG cB cI cJ cZ) s) (hsc : sc b L xs A s)  : g_L_cell_13 p l e s m args below meth c A dC dI cB cI cJ cZ  b L xs  out (f_L_cell_13 L xs  ) := by
  obtain ⟨hx, hb, hr, hml, hown, hts, hlocks, hA⟩ := id C0
  intro y0 hf H locs hP hD hS ls hl
  replace hf : ((some ((y0, ()))) : Option (Int32 × Unit)) = some out := hf
  have h9 := Option.some.inj hf
  have h8 := congrArg Prod.fst h9
  have h7 := congrArg Prod.snd h9
  exact W.iret (v := y0) hx hb hr (fun t ht hW => ⟨⟨y0, (), rfl, ⟨h8, h7⟩, by rw [ht]; exact hP, va_K.moved hW.alike hK, hD⟩, hS.F ht⟩) hS.2.2 dL_cell_13
set_option maxHeartbeats 4000000 in
set_option maxRecDepth 100000 in
theorem w_L_cell_0 {p : Program} {l : Launch} {e : Env} {s : State} {m : MethodId} {args : Array Value} {below : List Frame} {meth : Method} {c : Code} {A : Nat → Prop} {dC : Nat → ClassId} {dI : Nat → Nat → Nat} {cB cI cJ cZ : ClassId} {b L : Nat} {xs : Nat → Int32}  {out : Int32 × Unit} (C0 : Cx RL cL_cell (some .int) 2 wsL_cell p s m args meth c A) (hK : va_K (dC, dI) vwCl (tysG cB cI cJ cZ) s) (hsc : sc b L xs A s)  : g_L_cell_0 p l e s m args below meth c A dC dI cB cI cJ cZ  b L xs  out (f_L_cell L xs  ) := by
  obtain ⟨hx, hb, hr, hml, hown, hts, hlocks, hA⟩ := id C0
  intro x1 hf H locs hP hD hS ls hl
  replace hf : ((if (Int32.ofNat L) ≤ x1 then
  (f_L_cell_13 L xs (0 : Int32))
  else
  (if (x1 < 0 ∨ L ≤ Int32.toNatClampNeg x1) then none else
  f_L_cell_13 L xs (xs (Int32.toNatClampNeg x1)))) : Option (Int32 × Unit)) = some out := hf
  refine lv_iload_n hx hb dL_cell_0 rfl (lv_at hl 1 rfl) ?_
  refine lv_aload_n hx hb dL_cell_1 rfl (lv_at hl 0 rfl) ?_
  refine va_slen hx hb hsc.1 hsc.2.1 hsc.2.2 hS dL_cell_2 ?_
  refine lv_icmp_ge (tgt := 12) hx hb dL_cell_3 (by decide) (fun c_1 => ?_) (fun c_1 => ?_)
  · replace hf := (if_pos c_1).symm.trans hf
    refine lv_iconst (v := 0) hx hb dL_cell_12 (by decide) ?_
    exact w_L_cell_13 C0 hK hsc (0 : Int32) hf _ _ hP hD hS ls (lv_sub hl [] rfl)
  · replace hf := (if_neg c_1).symm.trans hf
    refine lv_aload_n hx hb dL_cell_6 rfl (lv_at hl 0 rfl) ?_
    refine lv_iload_n hx hb dL_cell_7 rfl (lv_at hl 1 rfl) ?_
    obtain ⟨h_2, hf⟩ := gd_ck hf
    refine va_sld hx hb hsc.1 hsc.2.1 hsc.2.2 hS h_2 dL_cell_8 ?_
    refine lv_goto (tgt := 13) hx hb dL_cell_9 (by decide) ?_
    exact w_L_cell_13 C0 hK hsc (xs (Int32.toNatClampNeg x1)) hf _ _ hP hD hS ls (lv_sub hl [] rfl)
theorem nd_L_cell : yL_cell.cls ≠ "java/lang/invoke/MethodHandle" ∧ yL_cell.cls ≠ "java/lang/invoke/VarHandle" ∧ (parseMethodDescriptor yL_cell.desc).map (fun d => d.parameters.length) = some 2 := by decide +kernel
set_option maxHeartbeats 4000000 in
set_option maxRecDepth 100000 in
theorem c_L_cell (l : Launch) (dC : Nat → ClassId) (dI : Nat → Nat → Nat) (cB cI cJ cZ : ClassId) (b L : Nat) (xs : Nat → Int32) (sz : Nat)  (x1 : Int32) (out : Int32 × Unit) (hf : f_L_cell L xs  x1 = some out) : Met l yL_cell wsL_cell rm_L_cell (va_Pc [.ref b, .int x1] (fun U => U.heap.size = sz ∧ va_P (dC, dI) vwCl (ws_L_cell cB cI cJ cZ  ) U.heap ∧ va_K (dC, dI) vwCl (tysG cB cI cJ cZ) U ∧ va_D (fun _ => True) (ws_L_cell cB cI cJ cZ  ) ∧ sc b L xs (va_A (ws_L_cell cB cI cJ cZ  ) sz) U)) (qc_L_cell (va_A (ws_L_cell cB cI cJ cZ  ) sz) dC dI cB cI cJ cZ   out) 0 0 (va_A (ws_L_cell cB cI cJ cZ  ) sz) := by
  refine Met.ofW (cc := cL_cell) (maxL := 2) (ret := (some .int)) (by decide) rfl ?_
  intro p e s m args below meth c s₁ B hml hv
  obtain ⟨rfl, hsz, hP, hK, hD0, hsc⟩ := hv
  subst hsz
  have hD := hD0.self (sz := s.heap.size)
  generalize hAe : va_A (ws_L_cell cB cI cJ cZ  ) s.heap.size = A at hD hsc ⊢
  have hA : ∀ q : Nat, s.heap.size ≤ q → A q := fun q h => by rw [← hAe]; exact Or.inr h
  have hl := lv_entry ([.ref b, .int x1]) (n := 2) (Nat.le_of_ble_eq_true rfl)
  rw [lg_entry_eq]
  generalize (lg_sl ([.ref b, .int x1]) ++ List.replicate (2 - (lg_sl ([.ref b, .int x1])).length) Slot.unset).toArray = ls at hl ⊢
  have hl : lv_has ls 2 [(0, .ref b), (1, .int x1)] := hl
  exact w_L_cell_0 ⟨B.exec, B.bytes, B.returns, hml, findClass_of_methodNamed B.named, atoms_spec (ws := wsL_cell) B.pre, B.notSynchronized, hA⟩ hK hsc x1 hf _ _ hP hD va_S.rf ls (lv_sub hl [0, 1] rfl)
