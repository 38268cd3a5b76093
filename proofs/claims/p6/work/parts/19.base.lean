/-- what stands still while a method runs: the machine, the code, its words, what it may write -/
def Cx (own : String) (cc : ByteArray) (ret : Option FieldType) (nL : Nat) (ws : List Cond) (p : Program) (s : State) (m : MethodId) (args : Array Value) (meth : Method) (c : Code) (A : Nat → Prop) : Prop :=
  p.tables.exec = Jvm.exec ∧ c.code = cc ∧ meth.sig.returnType = ret ∧ c.maxLocals = nL ∧ s.vm.findClass own = some m.cls ∧ (∀ w ∈ ws, w.before args s = true) ∧ meth.locks = false ∧ (∀ q, s.heap.size ≤ q → A q)
abbrev tysG (cB cI cJ cZ : ClassId) : List (ClassId × FieldType) := [(cB, .byte), (cI, .int), (cJ, .long), (cZ, .boolean)]
theorem gd_ck {α : Type} {q : Prop} [Decidable q] {a : Option α} {o : α} (h : (if q then none else a) = some o) : ¬ q ∧ a = some o := by
  by_cases hq : q
  · rw [if_pos hq] at h; cases h
  · rw [if_neg hq] at h; exact ⟨hq, h⟩
theorem gd_bd {α β : Type} {x : Option α} {f : α → Option β} {o : β} (h : x.bind f = some o) : ∃ a, x = some a ∧ f a = some o := Option.bind_eq_some_iff.mp h
theorem nw_I {D : va_G} {cl : List vw_C} {cB cI cJ cZ cA : ClassId} {s : State} (h : va_K D cl (tysG cB cI cJ cZ ++ [(cA, .int)]) s) : cA = cI := Option.some.inj ((h.2 4 (cA, .int) rfl).2.symm.trans (h.2 1 (cI, .int) rfl).2)
theorem nw_J {D : va_G} {cl : List vw_C} {cB cI cJ cZ cA : ClassId} {s : State} (h : va_K D cl (tysG cB cI cJ cZ ++ [(cA, .long)]) s) : cA = cJ := Option.some.inj ((h.2 4 (cA, .long) rfl).2.symm.trans (h.2 2 (cJ, .long) rfl).2)
theorem nw_B {D : va_G} {cl : List vw_C} {cB cI cJ cZ cA : ClassId} {s : State} (h : va_K D cl (tysG cB cI cJ cZ ++ [(cA, .byte)]) s) : cA = cB := Option.some.inj ((h.2 4 (cA, .byte) rfl).2.symm.trans (h.2 0 (cB, .byte) rfl).2)
theorem nw_Z {D : va_G} {cl : List vw_C} {cB cI cJ cZ cA : ClassId} {s : State} (h : va_K D cl (tysG cB cI cJ cZ ++ [(cA, .boolean)]) s) : cA = cZ := Option.some.inj ((h.2 4 (cA, .boolean) rfl).2.symm.trans (h.2 3 (cZ, .boolean) rfl).2)
def gx {α β γ : Type} (o : α ⊕ β) (f : α → γ) (g : β → γ) : γ := match o with
  | .inl v => f v
  | .inr w => g w
theorem gx_l {α β γ : Type} {v : α} {f : α → Option γ} {g : β → Option γ} {o : γ} (h : gx (.inl v) f g = some o) : f v = some o := h
theorem gx_r {α β γ : Type} {w : β} {f : α → Option γ} {g : β → Option γ} {o : γ} (h : gx (.inr w) f g = some o) : g w = some o := h
theorem gd_z {x : Int32} (h : ¬ ¬ (x = 0 ∨ x = 1)) : narrow .boolean (.int x) = .int x := by
  rcases Classical.not_not.mp h with rfl | rfl <;> rfl

/-- the static table AXES of the class -/
def tab_AXES (j : Nat) : Int32 := ([0, 1, 2, 1, 2, 0, 2, 0, 1, 0, 2, 1, 2, 1, 0, 1, 0, 2] : List Int32).getD j 0
def ax (A : Nat → Prop) (U : State) : Prop := ∃ t : Nat, va_Z "LinkedCovers$Piece" "AXES" "[I" (.ref t) A U U.heap ∧ va_T .int t 18 (fun j => .int (tab_AXES j)) A U U.heap
theorem ax.call {A : Nat → Prop} {U : State} {g : JFrame} {mk : MethodId} {a : Array Value} (h : ax A U) : ax A (U.calling g mk a) := by
  obtain ⟨t, h1, h2⟩ := h
  exact ⟨t, va_Z.moved (u := U) (U := U.calling g mk a) (Vm.Alike.refl U.vm) h1, va_T.moved (u := U) (U := U.calling g mk a) (Vm.Alike.refl U.vm) h2⟩
theorem ax.go {A B : Nat → Prop} {s U : State} {H : Heap} {locs : List Loc} (h : ax A s) (hS : va_S A s.heap H locs) (hB : ∀ q, B q → A q) (hU : U.heap = H) (hW : s.WarmedH U.vm) : ax B U := by
  obtain ⟨t, h1, h2⟩ := h
  exact ⟨t, by rw [hU]; exact va_Z.moved hW.alike ((h1.kept hS.2.1).narrow hB), by rw [hU]; exact va_T.moved hW.alike ((h2.kept hS.2.1).narrow hB)⟩

/-- the script, a cell that no method of ours writes -/
def sc (b L : Nat) (xs : Nat → Int32) (A : Nat → Prop) (U : State) : Prop := va_X b L xs U U.heap ∧ b < U.heap.size ∧ ¬ A b
theorem sc.call {b L : Nat} {xs : Nat → Int32} {A : Nat → Prop} {U : State} {g : JFrame} {mk : MethodId} {a : Array Value} (h : sc b L xs A U) : sc b L xs A (U.calling g mk a) :=
  ⟨va_X.moved (u := U) (U := U.calling g mk a) (Vm.Alike.refl U.vm) h.1, h.2.1, h.2.2⟩
theorem sc.go {b L : Nat} {xs : Nat → Int32} {A B : Nat → Prop} {s U : State} {H : Heap} {locs : List Loc} (h : sc b L xs A s) (hS : va_S A s.heap H locs) (hB : ∀ q, B q → A q) (hU : U.heap = H) (hW : s.WarmedH U.vm) : sc b L xs B U :=
  ⟨by rw [hU]; exact va_X.moved hW.alike (h.1.kept (hS.2.1 b h.2.1 h.2.2)), by rw [hU]; exact Nat.lt_of_lt_of_le h.2.1 hS.1, fun q => h.2.2 (hB b q)⟩

/-- the words of the throws -/
def nAI : List String := ["java/lang/IndexOutOfBoundsException", "java/lang/RuntimeException", "java/lang/Exception"]
def nIA : List String := ["java/lang/RuntimeException", "java/lang/Exception"]
def xwC : List Cond := [.classLink RL 13 RJx00060, .classLink RL 18 "java/lang/IllegalArgumentException"]
def xwG : List Cond := xwC ++ ((vx_atS RX4 178 RJx00060 nAI).filter goodWord ++ (vx_atS RX4 87 "java/lang/IllegalArgumentException" nIA).filter goodWord)
def xwB : List Cond := [.castable RJx00060 RJx00060, .castable "java/lang/IllegalArgumentException" "java/lang/IllegalArgumentException", .declares (Bundle.initS "java/lang/IndexOutOfBoundsException"), .declares (Bundle.initS "java/lang/RuntimeException"), .declares (Bundle.initS "java/lang/Exception"), .declares (Bundle.initS Bundle.tN)]
theorem xwG_good : ∀ w ∈ xwG, goodWord w = true := by
  intro w hw
  rcases List.mem_append.mp hw with h | h
  · have : ∀ w ∈ xwC, goodWord w = true := by decide +kernel
    exact this w h
  · rcases List.mem_append.mp h with h | h
    · exact (List.mem_filter.mp h).2
    · exact (List.mem_filter.mp h).2
theorem xw_AI : ∀ w ∈ (vx_atS RX4 178 RJx00060 nAI).filter goodWord, w ∈ xwG := fun w h => List.mem_append_right _ (List.mem_append_left _ h)
theorem xw_IA : ∀ w ∈ (vx_atS RX4 87 "java/lang/IllegalArgumentException" nIA).filter goodWord, w ∈ xwG := fun w h => List.mem_append_right _ (List.mem_append_right _ h)
theorem xw_13 : Cond.classLink RL 13 RJx00060 ∈ xwG := List.mem_append_left _ List.mem_cons_self
theorem xw_18 : Cond.classLink RL 18 "java/lang/IllegalArgumentException" ∈ xwG := List.mem_append_left _ (List.mem_cons_of_mem _ List.mem_cons_self)
theorem xwB_AI : ∀ w ∈ (vx_atS RX4 178 RJx00060 nAI).filter (fun w => !goodWord w), w ∈ xwB := by decide +kernel
theorem xwB_IA : ∀ w ∈ (vx_atS RX4 87 "java/lang/IllegalArgumentException" nIA).filter (fun w => !goodWord w), w ∈ xwB := by decide +kernel
theorem xwO_AI : ∀ w ∈ Cond.classLink RX4 174 RJx00060 :: Cond.initialized RJx00060 :: vx_atS RX4 178 RJx00060 nAI, vx_ot w = true := by decide +kernel
theorem xwO_IA : ∀ w ∈ Cond.classLink RX4 83 "java/lang/IllegalArgumentException" :: Cond.initialized "java/lang/IllegalArgumentException" :: vx_atS RX4 87 "java/lang/IllegalArgumentException" nIA, vx_ot w = true := by decide +kernel
def xwS : List (Nat × String) := [(85, "the colour is not 0 .. 7"), (107, "the piece's column is one of the box"), (176, "there is no such turn"), (203, "there is no such column"), (208, "there is no such row")]
def xp (A : Nat → Prop) (U : State) : Prop := vx_Zq Bundle.tN "UNASSIGNED_STACK" Bundle.steD A U U.heap ∧ vx_Zq Bundle.tN "SUPPRESSED_SENTINEL" Bundle.listD A U U.heap ∧ (∀ w ∈ xwB, va_Nw w U) ∧ (∀ q ∈ xwS, ∃ a : Nat, vk_R RX4 q.1 q.2 a U) ∧ va_Nc "java/lang/IllegalArgumentException" RJx00060 U
theorem xp.call {A : Nat → Prop} {U : State} {g : JFrame} {mk : MethodId} {a : Array Value} (h : xp A U) : xp A (U.calling g mk a) := by
  obtain ⟨h1, h2, h3, h4, h5⟩ := h
  refine ⟨vx_Zq.moved (u := U) (U := U.calling g mk a) (Vm.Alike.refl U.vm) h1, vx_Zq.moved (u := U) (U := U.calling g mk a) (Vm.Alike.refl U.vm) h2, fun w hw => ?_, fun q hq => ?_, va_Nc.moved (u := U) (U := U.calling g mk a) (Vm.Alike.refl U.vm) h5⟩
  · have hot : w.onTables = true := by
      have : ∀ w ∈ xwB, w.onTables = true := by decide +kernel
      exact this w hw
    exact va_Nw.same (u := U) (U := U.calling g mk a) hot rfl (h3 w hw)
  · obtain ⟨b, hb⟩ := h4 q hq
    exact ⟨b, vk_R.same (u := U) (U := U.calling g mk a) rfl hb⟩
theorem xp.go {A B : Nat → Prop} {s U : State} {H : Heap} {locs : List Loc} (h : xp A s) (hS : va_S A s.heap H locs) (hB : ∀ q, B q → A q) (hU : U.heap = H) (hW : s.WarmedH U.vm) : xp B U := by
  obtain ⟨h1, h2, h3, h4, h5⟩ := h
  refine ⟨by rw [hU]; exact vx_Zq.moved hW.alike ((h1.kept hS.2.1).narrow hB), by rw [hU]; exact vx_Zq.moved hW.alike ((h2.kept hS.2.1).narrow hB), ?_, fun q hq => ?_, va_Nc.moved hW.alike h5⟩
  · unfold xwB at h3 ⊢
    simp only [List.forall_mem_cons] at h3 ⊢
    obtain ⟨b1, b2, b3, b4, b5, b6, b7⟩ := h3
    exact ⟨va_Nw.warmC hW b1, va_Nw.warmC hW b2, va_Nw.warmD hW b3, va_Nw.warmD hW b4, va_Nw.warmD hW b5, va_Nw.warmD hW b6, fun _ h => nomatch h⟩
  · obtain ⟨b, hb⟩ := h4 q hq
    exact ⟨b, vk_R.warm hW hb⟩
theorem gx_V {big ws : List Cond} {own : String} {idx : Nat} {C : String} {y : MethodName} (h : GoodIn big (wsV own idx C y ws)) : GoodIn (big ++ xwG) (wsV own idx C y (ws ++ xwG)) := by
  intro w hw
  have hw' : w ∈ wsV own idx C y ws ∨ w ∈ xwG := by
    unfold wsV at hw ⊢
    rcases List.mem_append.mp hw with h1 | h1
    · exact Or.inl (List.mem_append_left _ h1)
    · rcases List.mem_append.mp h1 with h2 | h2
      · exact Or.inl (List.mem_append_right _ h2)
      · exact Or.inr h2
  rcases hw' with h1 | h1
  · exact ⟨List.mem_append_left _ (h w h1).1, (h w h1).2⟩
  · exact ⟨List.mem_append_right _ h1, good_of_word (xwG_good w h1)⟩
theorem gx_S {big ws : List Cond} {own : String} {idx : Nat} {y : MethodName} (h : GoodIn big (va_wsS own idx y ws)) : GoodIn (big ++ xwG) (va_wsS own idx y (ws ++ xwG)) := by
  intro w hw
  have hw' : w ∈ va_wsS own idx y ws ∨ w ∈ xwG := by
    unfold va_wsS at hw ⊢
    rcases List.mem_append.mp hw with h1 | h1
    · exact Or.inl (List.mem_append_left _ h1)
    · rcases List.mem_append.mp h1 with h2 | h2
      · exact Or.inl (List.mem_append_right _ h2)
      · exact Or.inr h2
  rcases hw' with h1 | h1
  · exact ⟨List.mem_append_left _ (h w h1).1, (h w h1).2⟩
  · exact ⟨List.mem_append_right _ h1, good_of_word (xwG_good w h1)⟩
theorem gx_W {big ws : List Cond} (h : GoodIn big ws) : GoodIn (big ++ xwG) ws := fun w hw => ⟨List.mem_append_left _ (h w hw).1, (h w hw).2⟩
theorem xp_hat {L : List Cond} {args : Array Value} {s : State} {ws : List Cond} {A : Nat → Prop} (hts : ∀ w ∈ ws ++ xwG, w.before args s = true) (hx : xp A s) (h1 : ∀ w ∈ L.filter goodWord, w ∈ xwG) (h2 : ∀ w ∈ L.filter (fun w => !goodWord w), w ∈ xwB) : ∀ w ∈ L, w.before args s = true := by
  refine vx_hat (B := xwB) (fun w hw => hts w (List.mem_append_right _ (h1 w hw))) h2 (fun w hw => ?_)
  have hot : w.onTables = true := by
    have : ∀ w ∈ xwB, w.onTables = true := by decide +kernel
    exact this w hw
  exact va_Nw.use hot (hx.2.2.1 w hw)

