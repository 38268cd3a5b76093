theorem en_str {s : State} {args : Array Value} {cls text : String} {k : Nat} (h : (Cond.stringRef cls k text).before args s = true) : ∃ a : Nat, vk_R cls k text a s := by
  cases hc : s.vm.findClass cls with
  | none => simp [Cond.before, Cond.holds, Cond.value, hc] at h
  | some cur =>
    obtain ⟨k', cf, i, a, -, -, -, -, -, hev⟩ := Cond.stringRef_spec hc h
    have hev : (Term.string cls k).eval args s none [] s = some (.ref a) := hev
    exact ⟨a, vk_R.of h hev⟩
theorem en_arr {s : State} {args : Array Value} {ty : FieldType} (h : (Cond.arrayClass ty).before args s = true) : ∃ cA : ClassId, ArrOfT s cA ty ∧ s.vm.findClass ("[" ++ ty.toString) = some cA := by
  obtain ⟨cA, kA, comp, h1, h2, h3⟩ := Cond.arrayClass_spec h
  exact ⟨cA, fun n z => ⟨fun k h => (by cases h), kA, h2, comp, h3⟩, h1⟩
theorem en_xwG : ∀ w ∈ xwG, w ∈ lw_tbl := by decide +kernel
theorem en_xwB : ∀ w ∈ xwB, w ∈ lw_tbl := by decide +kernel
theorem en_xwO : ∀ w ∈ xwB, w.onTables = true := by decide +kernel
theorem en_xwS : ∀ q ∈ xwS, Cond.stringRef RX4 q.1 q.2 ∈ lw_tbl := by decide +kernel
theorem en_nJ : Cond.instantiable RJx00060 6 ∈ lw_tbl := by decide +kernel
theorem en_n0 : Cond.instantiable RX0 7 ∈ lw_tbl := by decide +kernel
theorem en_n1 : Cond.instantiable RX1 8 ∈ lw_tbl := by decide +kernel
theorem en_n2 : Cond.instantiable RX2 8 ∈ lw_tbl := by decide +kernel
theorem en_n3 : Cond.instantiable RX3 5 ∈ lw_tbl := by decide +kernel
theorem en_n4 : Cond.instantiable RX4 9 ∈ lw_tbl := by decide +kernel
theorem en_n5 : Cond.instantiable RX5 33 ∈ lw_tbl := by decide +kernel
theorem en_aB : Cond.arrayClass .byte ∈ lw_tbl := by decide +kernel
theorem en_aI : Cond.arrayClass .int ∈ lw_tbl := by decide +kernel
theorem en_aJ : Cond.arrayClass .long ∈ lw_tbl := by decide +kernel
theorem en_aZ : Cond.arrayClass .boolean ∈ lw_tbl := by decide +kernel
theorem en_nest : Cond.methodLinkNest RX4 33 yX0_init "LinkedCovers" ∈ lw_tbl := by decide +kernel
theorem en_sA : Cond.laysStatic "LinkedCovers$Piece" "AXES" "[I" ∈ lw_tbl := by decide +kernel
theorem en_iA : Cond.initialized "LinkedCovers$Piece" ∈ lw_tbl := by decide +kernel
theorem en_sU : Cond.laysStatic Bundle.tN "UNASSIGNED_STACK" Bundle.steD ∈ lw_tbl := by decide +kernel
theorem en_sS : Cond.laysStatic Bundle.tN "SUPPRESSED_SENTINEL" Bundle.listD ∈ lw_tbl := by decide +kernel
theorem en_iT : Cond.initialized Bundle.tN ∈ lw_tbl := by decide +kernel
theorem en_gU : Cond.isRef (.static Bundle.tN "UNASSIGNED_STACK" Bundle.steD) ∈ flatC (Jvm.Cond.and given_1 narrow_1) := by decide +kernel
theorem en_gS : Cond.isRef (.static Bundle.tN "SUPPRESSED_SENTINEL" Bundle.listD) ∈ flatC (Jvm.Cond.and given_1 narrow_1) := by decide +kernel
theorem en_gC : Cond.not (.castable "java/lang/IllegalArgumentException" RJx00060) ∈ flatC (Jvm.Cond.and given_1 narrow_1) := by decide +kernel
theorem en_gA : Cond.arrayOf (.static "LinkedCovers$Piece" "AXES" "[I") .int ∈ flatC (Jvm.Cond.and given_1 narrow_1) := by decide +kernel
theorem en_gL : Cond.eq (.length (.static "LinkedCovers$Piece" "AXES" "[I")) (.int (Int32.ofNat 18)) ∈ flatC (Jvm.Cond.and given_1 narrow_1) := by decide +kernel
theorem en_gE : ∀ j : Nat, j < 18 → Cond.eq (.elem (.static "LinkedCovers$Piece" "AXES" "[I") (.int (Int32.ofNat j))) (.int (tab_AXES j)) ∈ flatC (Jvm.Cond.and given_1 narrow_1) := by decide +kernel
theorem en_ax {args : Array Value} {s : State} (hts : ∀ w ∈ lw_tbl, w.before args s = true) (hgv : (Jvm.Cond.and given_1 narrow_1).before args s = true) {A : Nat → Prop} (hA : ∀ a : Nat, a < s.heap.size → ¬ A a) : ax A s := by
  have hgf := flat_of_before _ hgv
  obtain ⟨t, ht, hT⟩ := va_Tof (N := 18) (f := fun j => .int (tab_AXES j)) (A := A) (by decide) (hgf _ en_gA) (va_eqt (hgf _ en_gL)) (fun j hj => va_eqt (hgf _ (en_gE j hj))) hA
  exact ⟨t, va_Zref (hts _ en_sA) (hts _ en_iA) ht hA, hT⟩
theorem en_xp {args : Array Value} {s : State} (hts : ∀ w ∈ lw_tbl, w.before args s = true) (hgv : (Jvm.Cond.and given_1 narrow_1).before args s = true) {A : Nat → Prop} (hA : ∀ a : Nat, a < s.heap.size → ¬ A a) : xp A s := by
  have hgf := flat_of_before _ hgv
  exact ⟨vx_Zqof (hts _ en_sU) (hts _ en_iT) (hgf _ en_gU) hA, vx_Zqof (hts _ en_sS) (hts _ en_iT) (hgf _ en_gS) hA, fun w hw => va_Nw.of (en_xwO w hw) (hts w (en_xwB w hw)), fun q hq => en_str (hts _ (en_xwS q hq)), va_Nc.of (hgf _ en_gC)⟩
theorem en_K {args : Array Value} {s : State} (hts : ∀ w ∈ lw_tbl, w.before args s = true) : ∃ (dC : Nat → ClassId) (dI : Nat → Nat → Nat) (cB cI cJ cZ : ClassId), va_K (dC, dI) vwCl (tysG cB cI cJ cZ) s := by
  obtain ⟨c0, i0, k0⟩ := u_known (C := RJx00060) (T := TJx00060) (N := 6) (n := 6) hts inJx00060 (hts _ en_nJ)
  obtain ⟨c1, i1, k1⟩ := u_known (C := RX0) (T := TX0) (N := 7) (n := 7) hts inX0 (hts _ en_n0)
  obtain ⟨c2, i2, k2⟩ := u_known (C := RX1) (T := TX1) (N := 8) (n := 8) hts inX1 (hts _ en_n1)
  obtain ⟨c3, i3, k3⟩ := u_known (C := RX2) (T := TX2) (N := 8) (n := 8) hts inX2 (hts _ en_n2)
  obtain ⟨c4, i4, k4⟩ := u_known (C := RX3) (T := TX3) (N := 5) (n := 5) hts inX3 (hts _ en_n3)
  obtain ⟨c5, i5, k5⟩ := u_known (C := RX4) (T := TX4) (N := 9) (n := 9) hts inX4 (hts _ en_n4)
  obtain ⟨c6, i6, k6⟩ := u_known (C := RX5) (T := TX5) (N := 33) (n := 33) hts inX5 (hts _ en_n5)
  obtain ⟨cB, aB, bB⟩ := en_arr (hts _ en_aB)
  obtain ⟨cI, aI9, bI9⟩ := en_arr (hts _ en_aI)
  obtain ⟨cJ, aJ9, bJ9⟩ := en_arr (hts _ en_aJ)
  obtain ⟨cZ, aZ9, bZ9⟩ := en_arr (hts _ en_aZ)
  refine ⟨fun k => match k with | 0 => c0 | 1 => c1 | 2 => c2 | 3 => c3 | 4 => c4 | 5 => c5 | _ => c6, fun k => match k with | 0 => i0 | 1 => i1 | 2 => i2 | 3 => i3 | 4 => i4 | 5 => i5 | _ => i6, cB, cI, cJ, cZ, ?_, ?_⟩
  · intro k q hq
    match k, hq with
    | 0, hq => cases hq; exact k0
    | 1, hq => cases hq; exact k1
    | 2, hq => cases hq; exact k2
    | 3, hq => cases hq; exact k3
    | 4, hq => cases hq; exact k4
    | 5, hq => cases hq; exact k5
    | 6, hq => cases hq; exact k6
    | k + 7, hq => simp [vwCl] at hq
  · intro k q hq
    match k, hq with
    | 0, hq => cases hq; exact ⟨aB, bB⟩
    | 1, hq => cases hq; exact ⟨aI9, bI9⟩
    | 2, hq => cases hq; exact ⟨aJ9, bJ9⟩
    | 3, hq => cases hq; exact ⟨aZ9, bZ9⟩
    | k + 4, hq => simp [tysG] at hq
set_option maxHeartbeats 4000000 in
set_option maxRecDepth 100000 in
theorem whole_start {p : Program} {e : Env} {s : State} {m : MethodId} {below : List Frame} {meth : Method} {c : Code} (l : Launch) (hl9 : l.stackTraces = false) {b L : Nat} {xs : Nat → Int32} (hL : L ≤ 3074) (C0 : lw_At p s m meth c b L xs) : W p l e room_1 s m #[Value.ref b] below meth c s.heap [] 0 0 (lw_Z below #[Value.ref b] s) (entryFrame m ([Value.ref b] : List Value).toArray 7) := by
  obtain ⟨hx, hb, hr, hml, hown, hts, hX, hbl, hlocks, hgv⟩ := id C0
  have hA0 : ∀ a : Nat, a < s.heap.size → ¬ (fun q : Nat => s.heap.size ≤ q) a := fun a h => Nat.not_le.mpr h
  obtain ⟨dC, dI, cB, cI, cJ, cZ, hK⟩ := en_K hts
  obtain ⟨out, hf, hout⟩ := rk_law L xs hL
  have hl := lv_entry ([.ref b]) (n := 7) (Nat.le_of_ble_eq_true rfl)
  rw [lg_entry_eq]
  generalize (lg_sl ([.ref b]) ++ List.replicate (7 - (lg_sl ([.ref b])).length) Slot.unset).toArray = ls at hl ⊢
  have hl : lv_has ls 7 [(0, .ref b)] := hl
  exact w_L_law (A := fun q : Nat => s.heap.size ≤ q) ⟨hx, hb, hr, hml, hown, fun w hw => (List.mem_append.mp hw).elim (fun h => hts w (wsL_law_in w h)) (fun h => hts w (en_xwG w h)), hlocks, fun _ h => h⟩ hK (fun _ h => h) hout hL hl9 (en_ax hts hgv hA0) (en_xp hts hgv hA0) ⟨hX, hbl, hA0 b hbl⟩ (va_Nw.of rfl (hts _ en_nest)) hf ls hl
set_option maxHeartbeats 4000000 in
theorem lw_walk (l : Launch) (hl9 : l.stackTraces = false) (b : Addr) (xs : List Int32) : MetFree l x (headSpec (Jvm.Cond.code x code maxLocals ret :: tables_1) room_1) (lw_P b xs) (fun _ _ _ _ _ => True) lw_Q := by
  refine MetFree.of_bodyS (code := code) (maxLocals := maxLocals) (ret := ret) (by decide) ?_ ?_
  · intro args s m h hn
    obtain ⟨meth, c, h1, h2, h3, h4, h5, h6, -, -⟩ := Cond.code_spec hn (atoms_spec (ws := Jvm.Cond.code x code maxLocals ret :: tables_1) h _ List.mem_cons_self)
    exact ⟨meth, c, h1, h2, h3, h4, h5, h6⟩
  · intro p e s m args below meth c s₁ B hml0 hP _
    obtain ⟨rfl, hx, hbd, hgv⟩ := hP
    obtain ⟨scr, harrAt, hlist, hof, hsmall⟩ := hx
    obtain ⟨hcb, hkn, -, -⟩ := State.arrayAt?_spec harrAt
    have hown : s.vm.findClass R_law = some m.cls := findClass_of_methodNamed B.named
    have hts0 : ∀ c ∈ (Jvm.Cond.code x code maxLocals ret :: tables_1), c.before #[Value.ref b] s = true := atoms_spec (ws := Jvm.Cond.code x code maxLocals ret :: tables_1) B.pre
    have hts : ∀ w ∈ lw_tbl, w.before #[Value.ref b] s = true := k2_hts_sels lw_privs (fun w hw => hts0 w (List.mem_cons_of_mem _ hw)) lw_privs_ok
    have hml : c.maxLocals = 7 := B.maxLocals_eq (hts0 _ List.mem_cons_self)
    have X₀ : Stand p l e room_1 s m #[Value.ref b] below meth c s₁ [] 0 0 := Stand.of_body B
    have hh0 : s₁.heap = s.heap := by rw [B.state]; rfl
    have hsz : scr.slots.size = xs.length := by rw [← Array.length_toList, hlist, List.length_map]
    have hval : ∀ j : Nat, j < xs.length → scr.slots[j]? = some (.int (xs.getD j 0)) := fun j hj => by
      rw [← Array.getElem?_toList, hlist]
      simp [hj]
    have hbl : b < s.heap.size := (Array.getElem?_eq_some_iff.mp hcb).1
    have hX : va_X b xs.length (fun j => xs.getD j 0) s s.heap := ⟨scr, hcb, hof, hkn, hsz, hval⟩
    have K : W p l e room_1 s m #[Value.ref b] below meth c s₁.heap [] 0 0 (lw_Z below #[Value.ref b] s) (entryFrame m ([Value.ref b] : List Value).toArray 7) := by
      rw [hh0]
      exact whole_start l hl9 hbd ⟨B.exec, B.bytes, B.returns, hml, hown, hts, hX, hbl, B.notSynchronized, hgv⟩
    obtain ⟨t, a1, o, b1, b2, b3⟩ := K s₁ rfl X₀
    exact ⟨t, o, a1, b1, b2, b3⟩
theorem lw_pre_spec {args : Array Value} {s : State} (h : (Jvm.Cond.and given_1 narrow_1).before args s = true) (hr : rest_1_c.before args s = true) : ∃ (b : Addr) (xs : List Int32), lw_P b xs args s := by
  have hs := flat_of_before _ h
  have hq := flat_of_before _ hr
  have hc : (Cond.count 1).before args s = true := hs _ (by decide +kernel)
  have harr : (Cond.arrayOf (.arg 0) .int).before args s = true := hs _ (by decide +kernel)
  have hle : (Cond.le (.length (.arg 0)) (.int 3074)).before args s = true := hs _ (by decide +kernel)
  have hlen : (Cond.isInt (.length (.arg 0))).before args s = true := hq _ (by decide +kernel)
  have hall : (Cond.all (.arg 0) (.isInt (.elem (.arg 0) (.index 0)))).before args s = true := hq _ (by decide +kernel)
  obtain ⟨b, xs, hb, hx⟩ := State.ints_of_pre rfl harr hlen hall
  have hsm : xs.length < 2 ^ 31 := hx.choose_spec.2.2.2
  have hev : (Term.length (.arg 0)).eval args s none [] s = some (.int xs.length.toInt32) := hx.length_eval hb
  have hv := Cond.le_ints hev (show (Term.int 3074).eval args s none [] s = some (.int 3074) from rfl)
  have hd : xs.length.toInt32 ≤ 3074 := by
    simpa [Cond.before, Cond.holds, hv] using hle
  have hN : xs.length ≤ 3074 := (Int32.ofNat_le_ofNat hsm (by decide)).mp (show Int32.ofNat xs.length ≤ Int32.ofNat 3074 from hd)
  exact ⟨b, xs, Cond.one_arg hc (show args[0]? = some (.ref b) from hb), hx, hN, h⟩
theorem lw_comes (l : Launch) (hl9 : l.stackTraces = false) : Comes l x (Jvm.Cond.code x code maxLocals ret :: tables_1) room_1 (fun tb e args s => Calls_1 tb e args s ∧ rest_1 tb e args s ∧ Pre_1 tb e args s)
    (fun _ _ args s o t => lw_Q args s o t) := by
  intro p e ha hc hk s m args below hf hfit hheap happ hpre
  obtain ⟨b, xs, hP⟩ := lw_pre_spec hpre.2.2 hpre.2.1
  obtain ⟨k, o, h1, h2, h3, hQ⟩ := lw_walk l hl9 b xs p e ha hc hk s m args below hf ((Spec.applies_iff_loose hf).mp happ).1 hP trivial
  exact ⟨k, o, h1, h2, h3, hQ⟩
theorem lw_frame {s t : State} {o : Outcome} {args : Array Value} (h : Framed s o t [] 1075 14499) :
    Framed s o t (fieldLocs frame_1_writes args s ++ arrayLocs frame_1_arrays args s ++ staticLocs frame_1_statics s) 1075 14499 := h
theorem lw_limb (L : Cond) (hL : ∀ (args : Array Value) (s t : State), L.after args s (.returned (some (.int 1))) t = true) :
    ArmFor flags0 classFile x code maxLocals ret World_1 tables_1 room_1 Calls_1 rest_1 Pre_1
      (fun tb e a s o t => postC L tb e a s o t ∧ Framed s o t (fieldLocs frame_1_writes a s ++ arrayLocs frame_1_arrays a s ++ staticLocs frame_1_statics s) 1075 14499) := by
  intro l hfl9 _ _ p e ha hc hk s m args below hf hfit hheap happ hpre
  have hl9 : l.stackTraces = false := by
    unfold Launch.stackTraces
    rw [hfl9]
    decide +kernel
  obtain ⟨k, o, h1, h2, h3, rfl, hF⟩ := lw_comes l hl9 p e ha hc hk s m args below hf hfit hheap happ hpre
  exact ⟨k, _, h1, h2, h3, hL args s _, lw_frame hF⟩
theorem i_vc : Claimed_1_1 ∧ Claimed_1_2 := ⟨lw_limb limb_1_1 (fun args s t => by simp [limb_1_1, Cond.after, Cond.holds, Cond.value]), lw_limb limb_1_2 (fun args s t => Cond.after_iff.mpr (by
  first | (rw [show limb_1_2 = Cond.eq .result (.int 1) from rfl, Cond.eq_ints (x := 1) (y := 1) rfl rfl]; simp; done) | (simp [limb_1_2, Cond.value, Term.eval]; done)))⟩
