-- the law of this part
abbrev OL := Int32 × Int32 × Int64 × Int32 × (Nat → Int32) × Int32 × Int32 × Int32 × (Nat → Int32) × (Nat → Int32) × (Nat → Int64) × (Nat → Int64) × (Nat → Int32) × Int32 × Int32 × Int32 × Int32 × Int32 × Int32 × (Nat → Int32) × Int32 × (Nat → Int32) × (Nat → Int32) × (Nat → Int32) × Int32 × Int32 × (Nat → Int64) × (Nat → Int64) × (Nat → Int64) × (Nat → Int32) × (Nat → Int64) × Int32 × Int32 × (Nat → Int64) × (Nat → Int64) × (Nat → Int64) × (Nat → Int32) × (Nat → Int64) × Int32 × Int32 × Int32 × Int32 × Int32 × Int32 × Int32 × Int32 × Int32 × Int32 × Int32 × Int32 × Int32 × Int32 × Int32 × (Nat → Int32) × (Nat → Int32) × (Nat → Int32) × (Nat → Int32) × (Nat → Int32) × (Nat → Int32) × (Nat → Int32) × (Nat → Int32) × (Nat → Int32) × (Nat → Int32) × (Nat → Int32) × (Nat → Int64) × (Nat → Int64) × (Nat → Int32) × (Nat → Int32) × (Nat → Int32) × (Nat → Int32) × (Nat → Int32) × (Nat → Int64)
def gdK (K : Int32 → Int64 → Int32 → (Nat → Int32) → Int32 → Int32 → Int32 → (Nat → Int32) → (Nat → Int32) → (Nat → Int64) → (Nat → Int64) → (Nat → Int32) → Int32 → Int32 → Int32 → Int32 → Int32 → Int32 → (Nat → Int32) → Int32 → (Nat → Int32) → (Nat → Int32) → (Nat → Int32) → Int32 → Int32 → (Nat → Int64) → (Nat → Int64) → (Nat → Int64) → (Nat → Int32) → (Nat → Int64) → Int32 → Int32 → (Nat → Int64) → (Nat → Int64) → (Nat → Int64) → (Nat → Int32) → (Nat → Int64) → Int32 → Int32 → Int32 → Int32 → Int32 → Int32 → Int32 → Int32 → Int32 → Int32 → Int32 → Int32 → Int32 → Int32 → Int32 → (Nat → Int32) → (Nat → Int32) → (Nat → Int32) → (Nat → Int32) → (Nat → Int32) → (Nat → Int32) → (Nat → Int32) → (Nat → Int32) → (Nat → Int32) → (Nat → Int32) → (Nat → Int32) → (Nat → Int64) → (Nat → Int64) → (Nat → Int32) → (Nat → Int32) → (Nat → Int32) → (Nat → Int32) → (Nat → Int32) → (Nat → Int64) → Int32 → Option OL) (x : Int32) : Prop := ∀ (n nd R T K0 M cu no fo kp : Nat) (ws : Bool) (tm bt cl tk go cb ke wy : Nat → Nat) (s1 : Int32) (s2 : Int32) (s3 : Int32) (s4 : Int32) (s5 : Int32) (s6 : (Nat → Int32)) (s7 : (Nat → Int32)) (s8 : (Nat → Int32)) (s9 : (Nat → Int64)) (s10 : (Nat → Int64)) (s11 : (Nat → Int64)) (s12 : (Nat → Int32)) (s13 : Int32) (s14 : Int32) (s15 : (Nat → Int64)) (s16 : (Nat → Int64)) (s17 : (Nat → Int64)) (s18 : (Nat → Int32)) (s19 : (Nat → Int64)) (th : Int32) (p1 : Int32) (p2 : Int32) (p3 : Int32) (p4 : Int32) (p5 : Int32) (p6 : Int32) (p7 : (Nat → Int32)) (p8 : (Nat → Int32)) (p9 : (Nat → Int32)) (p10 : (Nat → Int32)) (p11 : (Nat → Int32)) (p12 : (Nat → Int32)) (p13 : (Nat → Int64)) (p14 : (Nat → Int32)) (p15 : (Nat → Int32)) (p16 : (Nat → Int32)) (p17 : (Nat → Int32)) (v3 : (Nat → Int64)), RLt n nd R T tm bt cl tk → RLc M cb cu → RLg n K0 go → RLw R no fo kp ws ke wy → ∃ o, K (nI T) (lN (TS tk T)) (nI ws.toNat) (aI tk) (nI n) (nI nd) (nI R) (aI bt) (aI (ccF nd cl)) (aL (roF R bt)) (aL (csF n nd R bt cl)) (aI (duF nd tm)) (nI cu) s1 s2 s3 s4 s5 s6 (nI K0) (aI go) s7 s8 (nI no) (nI fo) s9 s10 s11 s12 (aL ke) s13 s14 s15 s16 s17 s18 s19 th (nI n) (nI nd) (nI R) (nI M) p1 (nI T) p2 p3 p4 p5 p6 (nI kp) (nI K0) (nI no) (aI tm) (aI bt) (aI cl) (aI cb) p7 (aI tk) p8 p9 p10 p11 p12 (aL wy) p13 (aI go) p14 p15 p16 p17 v3 x = some o ∧ o.1 = 1
theorem rk_ix {i k L : Nat} (h : i + k < L) (hL : L ≤ 8) (hk : k < 6) : ¬ (nI i + nI k < 0 ∨ L ≤ (nI i + nI k).toNatClampNeg) := by
  rw [qz_add, qz_i0, qz_lt (by omega) (by omega), qz_ix (by omega)]; omega
theorem rk_ix1 {i L : Nat} (h : i + 6 ≤ L) (hL : L ≤ 8) : ¬ (nI i + (1 : Int32) < 0 ∨ L ≤ (nI i + (1 : Int32)).toNatClampNeg) := rk_ix (k := 1) (by omega) hL (by omega)
theorem rk_ix2 {i L : Nat} (h : i + 6 ≤ L) (hL : L ≤ 8) : ¬ (nI i + (2 : Int32) < 0 ∨ L ≤ (nI i + (2 : Int32)).toNatClampNeg) := rk_ix (k := 2) (by omega) hL (by omega)
theorem rk_ix3 {i L : Nat} (h : i + 6 ≤ L) (hL : L ≤ 8) : ¬ (nI i + (3 : Int32) < 0 ∨ L ≤ (nI i + (3 : Int32)).toNatClampNeg) := rk_ix (k := 3) (by omega) hL (by omega)
theorem rk_ix4 {i L : Nat} (h : i + 6 ≤ L) (hL : L ≤ 8) : ¬ (nI i + (4 : Int32) < 0 ∨ L ≤ (nI i + (4 : Int32)).toNatClampNeg) := rk_ix (k := 4) (by omega) hL (by omega)
theorem rk_ix5 {i L : Nat} (h : i + 6 ≤ L) (hL : L ≤ 8) : ¬ (nI i + (5 : Int32) < 0 ∨ L ≤ (nI i + (5 : Int32)).toNatClampNeg) := rk_ix (k := 5) (by omega) hL (by omega)
theorem rk_cmp (v : Nat → Int64) (y : Int64) : lg_cmp (vp_updL v (Int32.toNatClampNeg (0 : Int32)) y (Int32.toNatClampNeg (0 : Int32))) y = 0 := by
  unfold vp_updL lg_cmp
  rw [if_pos rfl, if_neg (fun h : y > y => Int64.lt_irrefl h), if_pos rfl]
theorem rk_6 (i : Nat) : nI i + 6 = nI (i + 6) := qz_add i 6
theorem w_off {R no fo kp : Nat} {ws : Bool} {ke wy : Nat → Nat} (R' : Nat) (h : RLw R no fo kp ws ke wy) : RLw R' no fo 0 false ke wy := ⟨h.1, h.2.1, rfl, fun i hi => by omega⟩
theorem cs_0 {L i : Nat} {xs : Nat → Int32} {K : Int32 → Int64 → Int32 → (Nat → Int32) → Int32 → Int32 → Int32 → (Nat → Int32) → (Nat → Int32) → (Nat → Int64) → (Nat → Int64) → (Nat → Int32) → Int32 → Int32 → Int32 → Int32 → Int32 → Int32 → (Nat → Int32) → Int32 → (Nat → Int32) → (Nat → Int32) → (Nat → Int32) → Int32 → Int32 → (Nat → Int64) → (Nat → Int64) → (Nat → Int64) → (Nat → Int32) → (Nat → Int64) → Int32 → Int32 → (Nat → Int64) → (Nat → Int64) → (Nat → Int64) → (Nat → Int32) → (Nat → Int64) → Int32 → Int32 → Int32 → Int32 → Int32 → Int32 → Int32 → Int32 → Int32 → Int32 → Int32 → Int32 → Int32 → Int32 → Int32 → (Nat → Int32) → (Nat → Int32) → (Nat → Int32) → (Nat → Int32) → (Nat → Int32) → (Nat → Int32) → (Nat → Int32) → (Nat → Int32) → (Nat → Int32) → (Nat → Int32) → (Nat → Int32) → (Nat → Int64) → (Nat → Int64) → (Nat → Int32) → (Nat → Int32) → (Nat → Int32) → (Nat → Int32) → (Nat → Int32) → (Nat → Int64) → Int32 → Option OL} {n nd R T K0 M cu no fo kp : Nat} {ws : Bool} {tm bt cl tk go cb ke wy : Nat → Nat} {s1 : Int32} {s2 : Int32} {s3 : Int32} {s4 : Int32} {s5 : Int32} {s6 : (Nat → Int32)} {s7 : (Nat → Int32)} {s8 : (Nat → Int32)} {s9 : (Nat → Int64)} {s10 : (Nat → Int64)} {s11 : (Nat → Int64)} {s12 : (Nat → Int32)} {s13 : Int32} {s14 : Int32} {s15 : (Nat → Int64)} {s16 : (Nat → Int64)} {s17 : (Nat → Int64)} {s18 : (Nat → Int32)} {s19 : (Nat → Int64)} {th : Int32} {p1 : Int32} {p2 : Int32} {p3 : Int32} {p4 : Int32} {p5 : Int32} {p6 : Int32} {p7 : (Nat → Int32)} {p8 : (Nat → Int32)} {p9 : (Nat → Int32)} {p10 : (Nat → Int32)} {p11 : (Nat → Int32)} {p12 : (Nat → Int32)} {p13 : (Nat → Int64)} {p14 : (Nat → Int32)} {p15 : (Nat → Int32)} {p16 : (Nat → Int32)} {p17 : (Nat → Int32)} {v3 : (Nat → Int64)} (hL : L ≤ 8) (hi : i + 6 ≤ L) (hK : gdK K (nI (i + 6))) (h1 : RLt n nd R T tm bt cl tk) (h2 : RLc M cb cu) (h3 : RLg n K0 go) (h4 : RLw R no fo kp ws ke wy) : ∃ o, f_L_law_136 L xs K (nI T) (lN (TS tk T)) (nI ws.toNat) (aI tk) (nI n) (nI nd) (nI R) (aI bt) (aI (ccF nd cl)) (aL (roF R bt)) (aL (csF n nd R bt cl)) (aI (duF nd tm)) (nI cu) s1 s2 s3 s4 s5 s6 (nI K0) (aI go) s7 s8 (nI no) (nI fo) s9 s10 s11 s12 (aL ke) s13 s14 s15 s16 s17 s18 s19 th (nI n) (nI nd) (nI R) (nI M) p1 (nI T) p2 p3 p4 p5 p6 (nI kp) (nI K0) (nI no) (aI tm) (aI bt) (aI cl) (aI cb) p7 (aI tk) p8 p9 p10 p11 p12 (aL wy) p13 (aI go) p14 p15 p16 p17 v3 (nI i) = some o ∧ o.1 = 1 := by
  unfold f_L_law_136 f_L_law_202 f_L_law_208 f_L_law_840 f_L_times f_L_times_16 f_X5_thrown
  rw [if_neg (rk_ix1 hi hL), if_neg (rk_ix2 hi hL)]
  rcases rd_times (vws := nI ws.toNat) (th := th) (kp := nI kp) h1 (xs (nI i + (1 : Int32)).toNatClampNeg) (xs (nI i + (2 : Int32)).toNatClampNeg) with ⟨a, b⟩ | ⟨a, b⟩ | ⟨tm', a, b, c⟩
  · rw [a, Option.bind_some]
    dsimp only [gx]
    rw [if_pos rfl, Option.bind_some, if_neg (rk_ix1 hi hL), if_neg (rk_ix2 hi hL)]
    rw [b, Option.bind_some]
    dsimp only
    rw [Option.bind_some]
    dsimp only
    rw [if_pos (show nI 1 = (1 : Int32) from rfl), if_neg (show ¬ (1 : Int32) = 0 by decide)]
    rw [rk_6]
    exact hK n nd R T K0 M cu no fo kp ws tm bt cl tk go cb ke wy _ _ _ _ _ _ _ _ _ _ _ _ _ _ _ _ _ _ _ _ _ _ _ _ _ _ _ _ _ _ _ _ _ _ _ _ _ _ h1 h2 h3 h4
  · rw [a, Option.bind_some]
    dsimp only [gx]
    rw [if_pos (show nI 0 = 0 from rfl), if_neg (show ¬ ((0 : Int32) < 0 ∨ 1 ≤ (0 : Int32).toNatClampNeg) by decide), Option.bind_some, if_neg (rk_ix1 hi hL), if_neg (rk_ix2 hi hL)]
    rw [b, Option.bind_some]
    dsimp only
    rw [Option.bind_some]
    dsimp only
    rw [if_pos (show nI 0 = (0 : Int32) from rfl), if_pos (show (0 : Int32) = 0 from rfl), if_neg (show ¬ ((0 : Int32) < 0 ∨ 1 ≤ (0 : Int32).toNatClampNeg) by decide), if_pos (show nI 0 = 0 from rfl), if_pos (rk_cmp _ _)]
    rw [rk_6]
    exact hK n nd R T K0 M cu no fo kp ws tm bt cl tk go cb ke wy _ _ _ _ _ _ _ _ _ _ _ _ _ _ _ _ _ _ _ _ _ _ _ _ _ _ _ _ _ _ _ _ _ _ _ _ _ _ h1 h2 h3 h4
  · rw [a, Option.bind_some]
    dsimp only [gx]
    rw [if_neg (show ¬ nI 1 = 0 by decide), if_neg (show ¬ ((0 : Int32) < 0 ∨ 1 ≤ (0 : Int32).toNatClampNeg) by decide), Option.bind_some, if_neg (rk_ix1 hi hL), if_neg (rk_ix2 hi hL)]
    rw [b, Option.bind_some]
    dsimp only
    rw [Option.bind_some]
    dsimp only
    rw [if_pos (show nI 0 = (0 : Int32) from rfl), if_pos (show (0 : Int32) = 0 from rfl), if_neg (show ¬ ((0 : Int32) < 0 ∨ 1 ≤ (0 : Int32).toNatClampNeg) by decide), if_neg (show ¬ nI 1 = 0 by decide), if_pos (rk_cmp _ _)]
    rw [rk_6]
    exact hK n nd R T K0 M cu no fo 0 false tm' bt cl tk go cb ke wy _ _ _ _ _ _ _ _ _ _ _ _ _ _ _ _ _ _ _ _ _ _ _ _ _ _ _ _ _ _ _ _ _ _ _ _ _ _ c h2 h3 (w_off R h4)
theorem cs_1 {L i : Nat} {xs : Nat → Int32} {K : Int32 → Int64 → Int32 → (Nat → Int32) → Int32 → Int32 → Int32 → (Nat → Int32) → (Nat → Int32) → (Nat → Int64) → (Nat → Int64) → (Nat → Int32) → Int32 → Int32 → Int32 → Int32 → Int32 → Int32 → (Nat → Int32) → Int32 → (Nat → Int32) → (Nat → Int32) → (Nat → Int32) → Int32 → Int32 → (Nat → Int64) → (Nat → Int64) → (Nat → Int64) → (Nat → Int32) → (Nat → Int64) → Int32 → Int32 → (Nat → Int64) → (Nat → Int64) → (Nat → Int64) → (Nat → Int32) → (Nat → Int64) → Int32 → Int32 → Int32 → Int32 → Int32 → Int32 → Int32 → Int32 → Int32 → Int32 → Int32 → Int32 → Int32 → Int32 → Int32 → (Nat → Int32) → (Nat → Int32) → (Nat → Int32) → (Nat → Int32) → (Nat → Int32) → (Nat → Int32) → (Nat → Int32) → (Nat → Int32) → (Nat → Int32) → (Nat → Int32) → (Nat → Int32) → (Nat → Int64) → (Nat → Int64) → (Nat → Int32) → (Nat → Int32) → (Nat → Int32) → (Nat → Int32) → (Nat → Int32) → (Nat → Int64) → Int32 → Option OL} {n nd R T K0 M cu no fo kp : Nat} {ws : Bool} {tm bt cl tk go cb ke wy : Nat → Nat} {s1 : Int32} {s2 : Int32} {s3 : Int32} {s4 : Int32} {s5 : Int32} {s6 : (Nat → Int32)} {s7 : (Nat → Int32)} {s8 : (Nat → Int32)} {s9 : (Nat → Int64)} {s10 : (Nat → Int64)} {s11 : (Nat → Int64)} {s12 : (Nat → Int32)} {s13 : Int32} {s14 : Int32} {s15 : (Nat → Int64)} {s16 : (Nat → Int64)} {s17 : (Nat → Int64)} {s18 : (Nat → Int32)} {s19 : (Nat → Int64)} {th : Int32} {p1 : Int32} {p2 : Int32} {p3 : Int32} {p4 : Int32} {p5 : Int32} {p6 : Int32} {p7 : (Nat → Int32)} {p8 : (Nat → Int32)} {p9 : (Nat → Int32)} {p10 : (Nat → Int32)} {p11 : (Nat → Int32)} {p12 : (Nat → Int32)} {p13 : (Nat → Int64)} {p14 : (Nat → Int32)} {p15 : (Nat → Int32)} {p16 : (Nat → Int32)} {p17 : (Nat → Int32)} {v3 : (Nat → Int64)} (hL : L ≤ 8) (hi : i + 6 ≤ L) (hK : gdK K (nI (i + 6))) (h1 : RLt n nd R T tm bt cl tk) (h2 : RLc M cb cu) (h3 : RLg n K0 go) (h4 : RLw R no fo kp ws ke wy) : ∃ o, f_L_law_211 L xs K (nI T) (lN (TS tk T)) (nI ws.toNat) (aI tk) (nI n) (nI nd) (nI R) (aI bt) (aI (ccF nd cl)) (aL (roF R bt)) (aL (csF n nd R bt cl)) (aI (duF nd tm)) (nI cu) s1 s2 s3 s4 s5 s6 (nI K0) (aI go) s7 s8 (nI no) (nI fo) s9 s10 s11 s12 (aL ke) s13 s14 s15 s16 s17 s18 s19 th (nI n) (nI nd) (nI R) (nI M) p1 (nI T) p2 p3 p4 p5 p6 (nI kp) (nI K0) (nI no) (aI tm) (aI bt) (aI cl) (aI cb) p7 (aI tk) p8 p9 p10 p11 p12 (aL wy) p13 (aI go) p14 p15 p16 p17 v3 (nI i) = some o ∧ o.1 = 1 := by
  unfold f_L_law_211 f_L_law_840
  rcases rd_row (vws := nI ws.toNat) (th := th) (kp := nI kp) h1 with ⟨a, b⟩ | ⟨a, b, c, d, e⟩
  · rw [a, Option.bind_some, b, Option.bind_some]
    dsimp only
    rw [if_pos rfl, rk_6]
    exact hK n nd R T K0 M cu no fo kp ws tm bt cl tk go cb ke wy _ _ _ _ _ _ _ _ _ _ _ _ _ _ _ _ _ _ _ _ _ _ _ _ _ _ _ _ _ _ _ _ _ _ _ _ _ _ h1 h2 h3 h4
  · rw [a, Option.bind_some, b, Option.bind_some]
    dsimp only
    rw [if_pos rfl, rk_6, ← c, ← d]
    exact hK n nd (R + 1) T K0 M cu no fo 0 false tm bt cl tk go cb ke wy _ _ _ _ _ _ _ _ _ _ _ _ _ _ _ _ _ _ _ _ _ _ _ _ _ _ _ _ _ _ _ _ _ _ _ _ _ _ e h2 h3 (w_off _ h4)
theorem cs_2 {L i : Nat} {xs : Nat → Int32} {K : Int32 → Int64 → Int32 → (Nat → Int32) → Int32 → Int32 → Int32 → (Nat → Int32) → (Nat → Int32) → (Nat → Int64) → (Nat → Int64) → (Nat → Int32) → Int32 → Int32 → Int32 → Int32 → Int32 → Int32 → (Nat → Int32) → Int32 → (Nat → Int32) → (Nat → Int32) → (Nat → Int32) → Int32 → Int32 → (Nat → Int64) → (Nat → Int64) → (Nat → Int64) → (Nat → Int32) → (Nat → Int64) → Int32 → Int32 → (Nat → Int64) → (Nat → Int64) → (Nat → Int64) → (Nat → Int32) → (Nat → Int64) → Int32 → Int32 → Int32 → Int32 → Int32 → Int32 → Int32 → Int32 → Int32 → Int32 → Int32 → Int32 → Int32 → Int32 → Int32 → (Nat → Int32) → (Nat → Int32) → (Nat → Int32) → (Nat → Int32) → (Nat → Int32) → (Nat → Int32) → (Nat → Int32) → (Nat → Int32) → (Nat → Int32) → (Nat → Int32) → (Nat → Int32) → (Nat → Int64) → (Nat → Int64) → (Nat → Int32) → (Nat → Int32) → (Nat → Int32) → (Nat → Int32) → (Nat → Int32) → (Nat → Int64) → Int32 → Option OL} {n nd R T K0 M cu no fo kp : Nat} {ws : Bool} {tm bt cl tk go cb ke wy : Nat → Nat} {s1 : Int32} {s2 : Int32} {s3 : Int32} {s4 : Int32} {s5 : Int32} {s6 : (Nat → Int32)} {s7 : (Nat → Int32)} {s8 : (Nat → Int32)} {s9 : (Nat → Int64)} {s10 : (Nat → Int64)} {s11 : (Nat → Int64)} {s12 : (Nat → Int32)} {s13 : Int32} {s14 : Int32} {s15 : (Nat → Int64)} {s16 : (Nat → Int64)} {s17 : (Nat → Int64)} {s18 : (Nat → Int32)} {s19 : (Nat → Int64)} {th : Int32} {p1 : Int32} {p2 : Int32} {p3 : Int32} {p4 : Int32} {p5 : Int32} {p6 : Int32} {p7 : (Nat → Int32)} {p8 : (Nat → Int32)} {p9 : (Nat → Int32)} {p10 : (Nat → Int32)} {p11 : (Nat → Int32)} {p12 : (Nat → Int32)} {p13 : (Nat → Int64)} {p14 : (Nat → Int32)} {p15 : (Nat → Int32)} {p16 : (Nat → Int32)} {p17 : (Nat → Int32)} {v3 : (Nat → Int64)} (hL : L ≤ 8) (hi : i + 6 ≤ L) (hK : gdK K (nI (i + 6))) (h1 : RLt n nd R T tm bt cl tk) (h2 : RLc M cb cu) (h3 : RLg n K0 go) (h4 : RLw R no fo kp ws ke wy) : ∃ o, f_L_law_224 L xs K (nI T) (lN (TS tk T)) (nI ws.toNat) (aI tk) (nI n) (nI nd) (nI R) (aI bt) (aI (ccF nd cl)) (aL (roF R bt)) (aL (csF n nd R bt cl)) (aI (duF nd tm)) (nI cu) s1 s2 s3 s4 s5 s6 (nI K0) (aI go) s7 s8 (nI no) (nI fo) s9 s10 s11 s12 (aL ke) s13 s14 s15 s16 s17 s18 s19 th (nI n) (nI nd) (nI R) (nI M) p1 (nI T) p2 p3 p4 p5 p6 (nI kp) (nI K0) (nI no) (aI tm) (aI bt) (aI cl) (aI cb) p7 (aI tk) p8 p9 p10 p11 p12 (aL wy) p13 (aI go) p14 p15 p16 p17 v3 (nI i) = some o ∧ o.1 = 1 := by
  unfold f_L_law_224 f_L_law_290 f_L_law_296 f_L_law_840 f_L_entry f_L_entry_16 f_X5_thrown
  rw [if_neg (rk_ix1 hi hL), if_neg (rk_ix2 hi hL)]
  rcases rd_entry (vws := nI ws.toNat) (th := th) (kp := nI kp) h1 (xs (nI i + (1 : Int32)).toNatClampNeg) (xs (nI i + (2 : Int32)).toNatClampNeg) with ⟨a, b⟩ | ⟨a, b⟩ | ⟨a, b⟩ | ⟨bt', cl', a, b, c⟩
  · rw [a, Option.bind_some]
    dsimp only [gx]
    rw [if_pos rfl, Option.bind_some, if_neg (rk_ix1 hi hL), if_neg (rk_ix2 hi hL)]
    rw [b, Option.bind_some]
    dsimp only
    rw [Option.bind_some]
    dsimp only
    rw [if_pos (show nI 1 = (1 : Int32) from rfl), if_neg (show ¬ (1 : Int32) = 0 by decide)]
    rw [rk_6]
    exact hK n nd R T K0 M cu no fo kp ws tm bt cl tk go cb ke wy _ _ _ _ _ _ _ _ _ _ _ _ _ _ _ _ _ _ _ _ _ _ _ _ _ _ _ _ _ _ _ _ _ _ _ _ _ _ h1 h2 h3 h4
  · rw [a, Option.bind_some]
    dsimp only [gx]
    rw [if_neg (show ¬ ("java/lang/IllegalArgumentException" = RJx00060) by decide), if_pos rfl, Option.bind_some, if_neg (rk_ix1 hi hL), if_neg (rk_ix2 hi hL)]
    rw [b, Option.bind_some]
    dsimp only
    rw [Option.bind_some]
    dsimp only
    rw [if_pos (show nI 2 = (2 : Int32) from rfl), if_neg (show ¬ (2 : Int32) = 0 by decide)]
    rw [rk_6]
    exact hK n nd R T K0 M cu no fo kp ws tm bt cl tk go cb ke wy _ _ _ _ _ _ _ _ _ _ _ _ _ _ _ _ _ _ _ _ _ _ _ _ _ _ _ _ _ _ _ _ _ _ _ _ _ _ h1 h2 h3 h4
  · rw [a, Option.bind_some]
    dsimp only [gx]
    rw [if_pos (show nI 0 = 0 from rfl), if_neg (show ¬ ((0 : Int32) < 0 ∨ 1 ≤ (0 : Int32).toNatClampNeg) by decide), Option.bind_some, if_neg (rk_ix1 hi hL), if_neg (rk_ix2 hi hL)]
    rw [b, Option.bind_some]
    dsimp only
    rw [Option.bind_some]
    dsimp only
    rw [if_pos (show nI 0 = (0 : Int32) from rfl), if_pos (show (0 : Int32) = 0 from rfl), if_neg (show ¬ ((0 : Int32) < 0 ∨ 1 ≤ (0 : Int32).toNatClampNeg) by decide), if_pos (show nI 0 = 0 from rfl), if_pos (rk_cmp _ _)]
    rw [rk_6]
    exact hK n nd R T K0 M cu no fo kp ws tm bt cl tk go cb ke wy _ _ _ _ _ _ _ _ _ _ _ _ _ _ _ _ _ _ _ _ _ _ _ _ _ _ _ _ _ _ _ _ _ _ _ _ _ _ h1 h2 h3 h4
  · rw [a, Option.bind_some]
    dsimp only [gx]
    rw [if_neg (show ¬ nI 1 = 0 by decide), if_neg (show ¬ ((0 : Int32) < 0 ∨ 1 ≤ (0 : Int32).toNatClampNeg) by decide), Option.bind_some, if_neg (rk_ix1 hi hL), if_neg (rk_ix2 hi hL)]
    rw [b, Option.bind_some]
    dsimp only
    rw [Option.bind_some]
    dsimp only
    rw [if_pos (show nI 0 = (0 : Int32) from rfl), if_pos (show (0 : Int32) = 0 from rfl), if_neg (show ¬ ((0 : Int32) < 0 ∨ 1 ≤ (0 : Int32).toNatClampNeg) by decide), if_neg (show ¬ nI 1 = 0 by decide), if_pos (rk_cmp _ _)]
    rw [rk_6]
    exact hK n nd R T K0 M cu no fo 0 false tm bt' cl' tk go cb ke wy _ _ _ _ _ _ _ _ _ _ _ _ _ _ _ _ _ _ _ _ _ _ _ _ _ _ _ _ _ _ _ _ _ _ _ _ _ _ c h2 h3 (w_off _ h4)
theorem cs_3 {L i : Nat} {xs : Nat → Int32} {K : Int32 → Int64 → Int32 → (Nat → Int32) → Int32 → Int32 → Int32 → (Nat → Int32) → (Nat → Int32) → (Nat → Int64) → (Nat → Int64) → (Nat → Int32) → Int32 → Int32 → Int32 → Int32 → Int32 → Int32 → (Nat → Int32) → Int32 → (Nat → Int32) → (Nat → Int32) → (Nat → Int32) → Int32 → Int32 → (Nat → Int64) → (Nat → Int64) → (Nat → Int64) → (Nat → Int32) → (Nat → Int64) → Int32 → Int32 → (Nat → Int64) → (Nat → Int64) → (Nat → Int64) → (Nat → Int32) → (Nat → Int64) → Int32 → Int32 → Int32 → Int32 → Int32 → Int32 → Int32 → Int32 → Int32 → Int32 → Int32 → Int32 → Int32 → Int32 → Int32 → (Nat → Int32) → (Nat → Int32) → (Nat → Int32) → (Nat → Int32) → (Nat → Int32) → (Nat → Int32) → (Nat → Int32) → (Nat → Int32) → (Nat → Int32) → (Nat → Int32) → (Nat → Int32) → (Nat → Int64) → (Nat → Int64) → (Nat → Int32) → (Nat → Int32) → (Nat → Int32) → (Nat → Int32) → (Nat → Int32) → (Nat → Int64) → Int32 → Option OL} {n nd R T K0 M cu no fo kp : Nat} {ws : Bool} {tm bt cl tk go cb ke wy : Nat → Nat} {s1 : Int32} {s2 : Int32} {s3 : Int32} {s4 : Int32} {s5 : Int32} {s6 : (Nat → Int32)} {s7 : (Nat → Int32)} {s8 : (Nat → Int32)} {s9 : (Nat → Int64)} {s10 : (Nat → Int64)} {s11 : (Nat → Int64)} {s12 : (Nat → Int32)} {s13 : Int32} {s14 : Int32} {s15 : (Nat → Int64)} {s16 : (Nat → Int64)} {s17 : (Nat → Int64)} {s18 : (Nat → Int32)} {s19 : (Nat → Int64)} {th : Int32} {p1 : Int32} {p2 : Int32} {p3 : Int32} {p4 : Int32} {p5 : Int32} {p6 : Int32} {p7 : (Nat → Int32)} {p8 : (Nat → Int32)} {p9 : (Nat → Int32)} {p10 : (Nat → Int32)} {p11 : (Nat → Int32)} {p12 : (Nat → Int32)} {p13 : (Nat → Int64)} {p14 : (Nat → Int32)} {p15 : (Nat → Int32)} {p16 : (Nat → Int32)} {p17 : (Nat → Int32)} {v3 : (Nat → Int64)} (hL : L ≤ 8) (hi : i + 6 ≤ L) (hK : gdK K (nI (i + 6))) (h1 : RLt n nd R T tm bt cl tk) (h2 : RLc M cb cu) (h3 : RLg n K0 go) (h4 : RLw R no fo kp ws ke wy) : ∃ o, f_L_law_299 L xs K (nI T) (lN (TS tk T)) (nI ws.toNat) (aI tk) (nI n) (nI nd) (nI R) (aI bt) (aI (ccF nd cl)) (aL (roF R bt)) (aL (csF n nd R bt cl)) (aI (duF nd tm)) (nI cu) s1 s2 s3 s4 s5 s6 (nI K0) (aI go) s7 s8 (nI no) (nI fo) s9 s10 s11 s12 (aL ke) s13 s14 s15 s16 s17 s18 s19 th (nI n) (nI nd) (nI R) (nI M) p1 (nI T) p2 p3 p4 p5 p6 (nI kp) (nI K0) (nI no) (aI tm) (aI bt) (aI cl) (aI cb) p7 (aI tk) p8 p9 p10 p11 p12 (aL wy) p13 (aI go) p14 p15 p16 p17 v3 (nI i) = some o ∧ o.1 = 1 := by
  unfold f_L_law_299 f_L_law_840
  rw [if_neg (rk_ix1 hi hL), if_neg (rk_ix2 hi hL), if_neg (rk_ix3 hi hL)]
  obtain ⟨b, M', cu', cb', a, c, d⟩ := re_cube (th := th) h2 (xs (nI i + (1 : Int32)).toNatClampNeg) (xs (nI i + (2 : Int32)).toNatClampNeg) (xs (nI i + (3 : Int32)).toNatClampNeg)
  rw [a, Option.bind_some, if_neg (rk_ix1 hi hL), if_neg (rk_ix2 hi hL), if_neg (rk_ix3 hi hL), c, Option.bind_some]
  dsimp only
  rw [if_pos rfl, rk_6]
  exact hK n nd R T K0 M' cu' no fo kp ws tm bt cl tk go cb' ke wy _ _ _ _ _ _ _ _ _ _ _ _ _ _ _ _ _ _ _ _ _ _ _ _ _ _ _ _ _ _ _ _ _ _ _ _ _ _ h1 d h3 h4
theorem cs_4 {L i : Nat} {xs : Nat → Int32} {K : Int32 → Int64 → Int32 → (Nat → Int32) → Int32 → Int32 → Int32 → (Nat → Int32) → (Nat → Int32) → (Nat → Int64) → (Nat → Int64) → (Nat → Int32) → Int32 → Int32 → Int32 → Int32 → Int32 → Int32 → (Nat → Int32) → Int32 → (Nat → Int32) → (Nat → Int32) → (Nat → Int32) → Int32 → Int32 → (Nat → Int64) → (Nat → Int64) → (Nat → Int64) → (Nat → Int32) → (Nat → Int64) → Int32 → Int32 → (Nat → Int64) → (Nat → Int64) → (Nat → Int64) → (Nat → Int32) → (Nat → Int64) → Int32 → Int32 → Int32 → Int32 → Int32 → Int32 → Int32 → Int32 → Int32 → Int32 → Int32 → Int32 → Int32 → Int32 → Int32 → (Nat → Int32) → (Nat → Int32) → (Nat → Int32) → (Nat → Int32) → (Nat → Int32) → (Nat → Int32) → (Nat → Int32) → (Nat → Int32) → (Nat → Int32) → (Nat → Int32) → (Nat → Int32) → (Nat → Int64) → (Nat → Int64) → (Nat → Int32) → (Nat → Int32) → (Nat → Int32) → (Nat → Int32) → (Nat → Int32) → (Nat → Int64) → Int32 → Option OL} {n nd R T K0 M cu no fo kp : Nat} {ws : Bool} {tm bt cl tk go cb ke wy : Nat → Nat} {s1 : Int32} {s2 : Int32} {s3 : Int32} {s4 : Int32} {s5 : Int32} {s6 : (Nat → Int32)} {s7 : (Nat → Int32)} {s8 : (Nat → Int32)} {s9 : (Nat → Int64)} {s10 : (Nat → Int64)} {s11 : (Nat → Int64)} {s12 : (Nat → Int32)} {s13 : Int32} {s14 : Int32} {s15 : (Nat → Int64)} {s16 : (Nat → Int64)} {s17 : (Nat → Int64)} {s18 : (Nat → Int32)} {s19 : (Nat → Int64)} {th : Int32} {p1 : Int32} {p2 : Int32} {p3 : Int32} {p4 : Int32} {p5 : Int32} {p6 : Int32} {p7 : (Nat → Int32)} {p8 : (Nat → Int32)} {p9 : (Nat → Int32)} {p10 : (Nat → Int32)} {p11 : (Nat → Int32)} {p12 : (Nat → Int32)} {p13 : (Nat → Int64)} {p14 : (Nat → Int32)} {p15 : (Nat → Int32)} {p16 : (Nat → Int32)} {p17 : (Nat → Int32)} {v3 : (Nat → Int64)} (hL : L ≤ 8) (hi : i + 6 ≤ L) (hK : gdK K (nI (i + 6))) (h1 : RLt n nd R T tm bt cl tk) (h2 : RLc M cb cu) (h3 : RLg n K0 go) (h4 : RLw R no fo kp ws ke wy) : ∃ o, f_L_law_348 L xs K (nI T) (lN (TS tk T)) (nI ws.toNat) (aI tk) (nI n) (nI nd) (nI R) (aI bt) (aI (ccF nd cl)) (aL (roF R bt)) (aL (csF n nd R bt cl)) (aI (duF nd tm)) (nI cu) s1 s2 s3 s4 s5 s6 (nI K0) (aI go) s7 s8 (nI no) (nI fo) s9 s10 s11 s12 (aL ke) s13 s14 s15 s16 s17 s18 s19 th (nI n) (nI nd) (nI R) (nI M) p1 (nI T) p2 p3 p4 p5 p6 (nI kp) (nI K0) (nI no) (aI tm) (aI bt) (aI cl) (aI cb) p7 (aI tk) p8 p9 p10 p11 p12 (aL wy) p13 (aI go) p14 p15 p16 p17 v3 (nI i) = some o ∧ o.1 = 1 := by
  unfold f_L_law_348 f_L_law_449 f_L_law_840 f_L_lay f_X5_thrown
  rw [if_neg (rk_ix1 hi hL), if_neg (rk_ix2 hi hL), if_neg (rk_ix3 hi hL), if_neg (rk_ix4 hi hL), if_neg (rk_ix5 hi hL)]
  obtain ⟨a0, rfl⟩ := aI_all s6
  obtain ⟨l0, rfl⟩ := aI_all p7
  rcases ri_lay (vws := nI ws.toNat) (th := th) (kp := nI kp) (ypl := p1) (y1 := s1) (y2 := s2) (y3 := s3) (y4 := s4) (y5 := s5) (a0 := a0) (l0 := l0) h1 h2 (xs (nI i + (1 : Int32)).toNatClampNeg) (xs (nI i + (2 : Int32)).toNatClampNeg) (xs (nI i + (3 : Int32)).toNatClampNeg) (xs (nI i + (4 : Int32)).toNatClampNeg) (xs (nI i + (5 : Int32)).toNatClampNeg) with ⟨a, b⟩ | ⟨a, b⟩ | ⟨y, vws', kp', ypl', z1, z2, z3, z4, z5, R', M', cu', bt', cb', u1, u2, a, b, c, d, e⟩
  · rw [a, Option.bind_some]
    dsimp only [gx]
    rw [if_pos rfl, Option.bind_some, if_neg (rk_ix1 hi hL), if_neg (rk_ix2 hi hL), if_neg (rk_ix3 hi hL), if_neg (rk_ix4 hi hL), if_neg (rk_ix5 hi hL)]
    rw [b, Option.bind_some]
    dsimp only
    rw [Option.bind_some]
    dsimp only
    rw [if_pos (show nI 1 = (1 : Int32) from rfl), if_neg (show ¬ (1 : Int32) = 0 by decide)]
    rw [rk_6]
    exact hK n nd R T K0 M cu no fo kp ws tm bt cl tk go cb ke wy _ _ _ _ _ _ _ _ _ _ _ _ _ _ _ _ _ _ _ _ _ _ _ _ _ _ _ _ _ _ _ _ _ _ _ _ _ _ h1 h2 h3 h4
  · rw [a, Option.bind_some]
    dsimp only [gx]
    rw [if_neg (show ¬ ("java/lang/IllegalArgumentException" = RJx00060) by decide), if_pos rfl, Option.bind_some, if_neg (rk_ix1 hi hL), if_neg (rk_ix2 hi hL), if_neg (rk_ix3 hi hL), if_neg (rk_ix4 hi hL), if_neg (rk_ix5 hi hL)]
    rw [b, Option.bind_some]
    dsimp only
    rw [Option.bind_some]
    dsimp only
    rw [if_pos (show nI 2 = (2 : Int32) from rfl), if_neg (show ¬ (2 : Int32) = 0 by decide)]
    rw [rk_6]
    exact hK n nd R T K0 M cu no fo kp ws tm bt cl tk go cb ke wy _ _ _ _ _ _ _ _ _ _ _ _ _ _ _ _ _ _ _ _ _ _ _ _ _ _ _ _ _ _ _ _ _ _ _ _ _ _ h1 h2 h3 h4
  · rw [a, Option.bind_some]
    dsimp only [gx]
    rw [if_neg (show ¬ ((0 : Int32) < 0 ∨ 1 ≤ (0 : Int32).toNatClampNeg) by decide), Option.bind_some, if_neg (rk_ix1 hi hL), if_neg (rk_ix2 hi hL), if_neg (rk_ix3 hi hL), if_neg (rk_ix4 hi hL), if_neg (rk_ix5 hi hL)]
    rw [b, Option.bind_some]
    dsimp only
    rw [Option.bind_some]
    dsimp only
    rw [if_pos (show nI 0 = (0 : Int32) from rfl), if_pos (show (0 : Int32) = 0 from rfl), if_neg (show ¬ ((0 : Int32) < 0 ∨ 1 ≤ (0 : Int32).toNatClampNeg) by decide), if_pos (rk_cmp _ _)]
    rw [rk_6]
    have hc : RLc M' cb cu' := by
      rcases d with ⟨d1, d2⟩ | ⟨d1, d2⟩
      · rw [d1, d2]; exact ⟨by omega, fun k hk => by omega, fun c => ⟨fun h => (by rw [Nat.zero_testBit] at h; cases h), fun ⟨k, hk, _⟩ => by omega⟩, by decide, by decide⟩
      · rw [d1, d2]; exact h2
    rcases e with ⟨e1, e2, e3, e4⟩ | ⟨e1, e2⟩
    · subst e1 e2 e3 e4
      exact hK n nd R' T K0 M' cu' no fo kp ws tm bt' cl tk go cb ke wy _ _ _ _ _ _ _ _ _ _ _ _ _ _ _ _ _ _ _ _ _ _ _ _ _ _ _ _ _ _ _ _ _ _ _ _ _ _ c hc h3 h4
    · subst e1 e2
      exact hK n nd R' T K0 M' cu' no fo 0 false tm bt' cl tk go cb ke wy _ _ _ _ _ _ _ _ _ _ _ _ _ _ _ _ _ _ _ _ _ _ _ _ _ _ _ _ _ _ _ _ _ _ _ _ _ _ c hc h3 (w_off _ h4)
theorem cs_5 {L i : Nat} {xs : Nat → Int32} {K : Int32 → Int64 → Int32 → (Nat → Int32) → Int32 → Int32 → Int32 → (Nat → Int32) → (Nat → Int32) → (Nat → Int64) → (Nat → Int64) → (Nat → Int32) → Int32 → Int32 → Int32 → Int32 → Int32 → Int32 → (Nat → Int32) → Int32 → (Nat → Int32) → (Nat → Int32) → (Nat → Int32) → Int32 → Int32 → (Nat → Int64) → (Nat → Int64) → (Nat → Int64) → (Nat → Int32) → (Nat → Int64) → Int32 → Int32 → (Nat → Int64) → (Nat → Int64) → (Nat → Int64) → (Nat → Int32) → (Nat → Int64) → Int32 → Int32 → Int32 → Int32 → Int32 → Int32 → Int32 → Int32 → Int32 → Int32 → Int32 → Int32 → Int32 → Int32 → Int32 → (Nat → Int32) → (Nat → Int32) → (Nat → Int32) → (Nat → Int32) → (Nat → Int32) → (Nat → Int32) → (Nat → Int32) → (Nat → Int32) → (Nat → Int32) → (Nat → Int32) → (Nat → Int32) → (Nat → Int64) → (Nat → Int64) → (Nat → Int32) → (Nat → Int32) → (Nat → Int32) → (Nat → Int32) → (Nat → Int32) → (Nat → Int64) → Int32 → Option OL} {n nd R T K0 M cu no fo kp : Nat} {ws : Bool} {tm bt cl tk go cb ke wy : Nat → Nat} {s1 : Int32} {s2 : Int32} {s3 : Int32} {s4 : Int32} {s5 : Int32} {s6 : (Nat → Int32)} {s7 : (Nat → Int32)} {s8 : (Nat → Int32)} {s9 : (Nat → Int64)} {s10 : (Nat → Int64)} {s11 : (Nat → Int64)} {s12 : (Nat → Int32)} {s13 : Int32} {s14 : Int32} {s15 : (Nat → Int64)} {s16 : (Nat → Int64)} {s17 : (Nat → Int64)} {s18 : (Nat → Int32)} {s19 : (Nat → Int64)} {th : Int32} {p1 : Int32} {p2 : Int32} {p3 : Int32} {p4 : Int32} {p5 : Int32} {p6 : Int32} {p7 : (Nat → Int32)} {p8 : (Nat → Int32)} {p9 : (Nat → Int32)} {p10 : (Nat → Int32)} {p11 : (Nat → Int32)} {p12 : (Nat → Int32)} {p13 : (Nat → Int64)} {p14 : (Nat → Int32)} {p15 : (Nat → Int32)} {p16 : (Nat → Int32)} {p17 : (Nat → Int32)} {v3 : (Nat → Int64)} (hL : L ≤ 8) (hi : i + 6 ≤ L) (hK : gdK K (nI (i + 6))) (h1 : RLt n nd R T tm bt cl tk) (h2 : RLc M cb cu) (h3 : RLg n K0 go) (h4 : RLw R no fo kp ws ke wy) : ∃ o, f_L_law_452 L xs K (nI T) (lN (TS tk T)) (nI ws.toNat) (aI tk) (nI n) (nI nd) (nI R) (aI bt) (aI (ccF nd cl)) (aL (roF R bt)) (aL (csF n nd R bt cl)) (aI (duF nd tm)) (nI cu) s1 s2 s3 s4 s5 s6 (nI K0) (aI go) s7 s8 (nI no) (nI fo) s9 s10 s11 s12 (aL ke) s13 s14 s15 s16 s17 s18 s19 th (nI n) (nI nd) (nI R) (nI M) p1 (nI T) p2 p3 p4 p5 p6 (nI kp) (nI K0) (nI no) (aI tm) (aI bt) (aI cl) (aI cb) p7 (aI tk) p8 p9 p10 p11 p12 (aL wy) p13 (aI go) p14 p15 p16 p17 v3 (nI i) = some o ∧ o.1 = 1 := by
  unfold f_L_law_452 f_L_law_506 f_L_law_512 f_L_law_840 f_L_take f_L_take_15 f_X5_thrown
  rw [if_neg (rk_ix1 hi hL)]
  rcases rf_take (vws := nI ws.toNat) (th := th) (kp := nI kp) (v1 := p9) (v2 := p12) (v3 := p16) (v4 := p17) h1 (xs (nI i + (1 : Int32)).toNatClampNeg) with ⟨a, b⟩ | ⟨w1, w2, w3, w4, a, b⟩ | ⟨tk', w1, w2, w3, w4, a, b, c⟩
  · rw [a, Option.bind_some]
    dsimp only [gx]
    rw [if_pos rfl, Option.bind_some, if_neg (rk_ix1 hi hL)]
    rw [b, Option.bind_some]
    dsimp only
    rw [Option.bind_some]
    dsimp only
    rw [if_pos (show nI 1 = (1 : Int32) from rfl), if_neg (show ¬ (1 : Int32) = 0 by decide)]
    rw [rk_6]
    exact hK n nd R T K0 M cu no fo kp ws tm bt cl tk go cb ke wy _ _ _ _ _ _ _ _ _ _ _ _ _ _ _ _ _ _ _ _ _ _ _ _ _ _ _ _ _ _ _ _ _ _ _ _ _ _ h1 h2 h3 h4
  · rw [a, Option.bind_some]
    dsimp only [gx]
    rw [if_pos (show nI 0 = 0 from rfl), if_neg (show ¬ ((0 : Int32) < 0 ∨ 1 ≤ (0 : Int32).toNatClampNeg) by decide), Option.bind_some, if_neg (rk_ix1 hi hL)]
    rw [b, Option.bind_some]
    dsimp only
    rw [Option.bind_some]
    dsimp only
    rw [if_pos (show nI 0 = (0 : Int32) from rfl), if_pos (show (0 : Int32) = 0 from rfl), if_neg (show ¬ ((0 : Int32) < 0 ∨ 1 ≤ (0 : Int32).toNatClampNeg) by decide), if_pos (show nI 0 = 0 from rfl), if_pos (rk_cmp _ _)]
    rw [rk_6]
    exact hK n nd R T K0 M cu no fo kp ws tm bt cl tk go cb ke wy _ _ _ _ _ _ _ _ _ _ _ _ _ _ _ _ _ _ _ _ _ _ _ _ _ _ _ _ _ _ _ _ _ _ _ _ _ _ h1 h2 h3 h4
  · rw [a, Option.bind_some]
    dsimp only [gx]
    rw [if_neg (show ¬ nI 1 = 0 by decide), if_neg (show ¬ ((0 : Int32) < 0 ∨ 1 ≤ (0 : Int32).toNatClampNeg) by decide), Option.bind_some, if_neg (rk_ix1 hi hL)]
    rw [b, Option.bind_some]
    dsimp only
    rw [Option.bind_some]
    dsimp only
    rw [if_pos (show nI 0 = (0 : Int32) from rfl), if_pos (show (0 : Int32) = 0 from rfl), if_neg (show ¬ ((0 : Int32) < 0 ∨ 1 ≤ (0 : Int32).toNatClampNeg) by decide), if_neg (show ¬ nI 1 = 0 by decide), if_pos (rk_cmp _ _)]
    rw [rk_6]
    exact hK n nd R (T + 1) K0 M cu no fo 0 false tm bt cl tk' go cb ke wy _ _ _ _ _ _ _ _ _ _ _ _ _ _ _ _ _ _ _ _ _ _ _ _ _ _ _ _ _ _ _ _ _ _ _ _ _ _ c h2 h3 (w_off _ h4)
theorem cs_6 {L i : Nat} {xs : Nat → Int32} {K : Int32 → Int64 → Int32 → (Nat → Int32) → Int32 → Int32 → Int32 → (Nat → Int32) → (Nat → Int32) → (Nat → Int64) → (Nat → Int64) → (Nat → Int32) → Int32 → Int32 → Int32 → Int32 → Int32 → Int32 → (Nat → Int32) → Int32 → (Nat → Int32) → (Nat → Int32) → (Nat → Int32) → Int32 → Int32 → (Nat → Int64) → (Nat → Int64) → (Nat → Int64) → (Nat → Int32) → (Nat → Int64) → Int32 → Int32 → (Nat → Int64) → (Nat → Int64) → (Nat → Int64) → (Nat → Int32) → (Nat → Int64) → Int32 → Int32 → Int32 → Int32 → Int32 → Int32 → Int32 → Int32 → Int32 → Int32 → Int32 → Int32 → Int32 → Int32 → Int32 → (Nat → Int32) → (Nat → Int32) → (Nat → Int32) → (Nat → Int32) → (Nat → Int32) → (Nat → Int32) → (Nat → Int32) → (Nat → Int32) → (Nat → Int32) → (Nat → Int32) → (Nat → Int32) → (Nat → Int64) → (Nat → Int64) → (Nat → Int32) → (Nat → Int32) → (Nat → Int32) → (Nat → Int32) → (Nat → Int32) → (Nat → Int64) → Int32 → Option OL} {n nd R T K0 M cu no fo kp : Nat} {ws : Bool} {tm bt cl tk go cb ke wy : Nat → Nat} {s1 : Int32} {s2 : Int32} {s3 : Int32} {s4 : Int32} {s5 : Int32} {s6 : (Nat → Int32)} {s7 : (Nat → Int32)} {s8 : (Nat → Int32)} {s9 : (Nat → Int64)} {s10 : (Nat → Int64)} {s11 : (Nat → Int64)} {s12 : (Nat → Int32)} {s13 : Int32} {s14 : Int32} {s15 : (Nat → Int64)} {s16 : (Nat → Int64)} {s17 : (Nat → Int64)} {s18 : (Nat → Int32)} {s19 : (Nat → Int64)} {th : Int32} {p1 : Int32} {p2 : Int32} {p3 : Int32} {p4 : Int32} {p5 : Int32} {p6 : Int32} {p7 : (Nat → Int32)} {p8 : (Nat → Int32)} {p9 : (Nat → Int32)} {p10 : (Nat → Int32)} {p11 : (Nat → Int32)} {p12 : (Nat → Int32)} {p13 : (Nat → Int64)} {p14 : (Nat → Int32)} {p15 : (Nat → Int32)} {p16 : (Nat → Int32)} {p17 : (Nat → Int32)} {v3 : (Nat → Int64)} (hL : L ≤ 8) (hi : i + 6 ≤ L) (hK : gdK K (nI (i + 6))) (h1 : RLt n nd R T tm bt cl tk) (h2 : RLc M cb cu) (h3 : RLg n K0 go) (h4 : RLw R no fo kp ws ke wy) : ∃ o, f_L_law_515 L xs K (nI T) (lN (TS tk T)) (nI ws.toNat) (aI tk) (nI n) (nI nd) (nI R) (aI bt) (aI (ccF nd cl)) (aL (roF R bt)) (aL (csF n nd R bt cl)) (aI (duF nd tm)) (nI cu) s1 s2 s3 s4 s5 s6 (nI K0) (aI go) s7 s8 (nI no) (nI fo) s9 s10 s11 s12 (aL ke) s13 s14 s15 s16 s17 s18 s19 th (nI n) (nI nd) (nI R) (nI M) p1 (nI T) p2 p3 p4 p5 p6 (nI kp) (nI K0) (nI no) (aI tm) (aI bt) (aI cl) (aI cb) p7 (aI tk) p8 p9 p10 p11 p12 (aL wy) p13 (aI go) p14 p15 p16 p17 v3 (nI i) = some o ∧ o.1 = 1 := by
  unfold f_L_law_515 f_L_law_840
  rcases re_untake (vws := nI ws.toNat) (th := th) (kp := nI kp) h1 with ⟨a, b⟩ | ⟨c0, a, b, c⟩
  · rw [a, Option.bind_some, b, Option.bind_some]
    dsimp only
    rw [if_pos rfl, rk_6]
    exact hK n nd R T K0 M cu no fo kp ws tm bt cl tk go cb ke wy _ _ _ _ _ _ _ _ _ _ _ _ _ _ _ _ _ _ _ _ _ _ _ _ _ _ _ _ _ _ _ _ _ _ _ _ _ _ h1 h2 h3 h4
  · rw [a, Option.bind_some, b, Option.bind_some]
    dsimp only
    rw [if_pos rfl, rk_6]
    exact hK n nd R (T - 1) K0 M cu no fo 0 false tm bt cl tk go cb ke wy _ _ _ _ _ _ _ _ _ _ _ _ _ _ _ _ _ _ _ _ _ _ _ _ _ _ _ _ _ _ _ _ _ _ _ _ _ _ c h2 h3 (w_off _ h4)
theorem cs_7 {L i : Nat} {xs : Nat → Int32} {K : Int32 → Int64 → Int32 → (Nat → Int32) → Int32 → Int32 → Int32 → (Nat → Int32) → (Nat → Int32) → (Nat → Int64) → (Nat → Int64) → (Nat → Int32) → Int32 → Int32 → Int32 → Int32 → Int32 → Int32 → (Nat → Int32) → Int32 → (Nat → Int32) → (Nat → Int32) → (Nat → Int32) → Int32 → Int32 → (Nat → Int64) → (Nat → Int64) → (Nat → Int64) → (Nat → Int32) → (Nat → Int64) → Int32 → Int32 → (Nat → Int64) → (Nat → Int64) → (Nat → Int64) → (Nat → Int32) → (Nat → Int64) → Int32 → Int32 → Int32 → Int32 → Int32 → Int32 → Int32 → Int32 → Int32 → Int32 → Int32 → Int32 → Int32 → Int32 → Int32 → (Nat → Int32) → (Nat → Int32) → (Nat → Int32) → (Nat → Int32) → (Nat → Int32) → (Nat → Int32) → (Nat → Int32) → (Nat → Int32) → (Nat → Int32) → (Nat → Int32) → (Nat → Int32) → (Nat → Int64) → (Nat → Int64) → (Nat → Int32) → (Nat → Int32) → (Nat → Int32) → (Nat → Int32) → (Nat → Int32) → (Nat → Int64) → Int32 → Option OL} {n nd R T K0 M cu no fo kp : Nat} {ws : Bool} {tm bt cl tk go cb ke wy : Nat → Nat} {s1 : Int32} {s2 : Int32} {s3 : Int32} {s4 : Int32} {s5 : Int32} {s6 : (Nat → Int32)} {s7 : (Nat → Int32)} {s8 : (Nat → Int32)} {s9 : (Nat → Int64)} {s10 : (Nat → Int64)} {s11 : (Nat → Int64)} {s12 : (Nat → Int32)} {s13 : Int32} {s14 : Int32} {s15 : (Nat → Int64)} {s16 : (Nat → Int64)} {s17 : (Nat → Int64)} {s18 : (Nat → Int32)} {s19 : (Nat → Int64)} {th : Int32} {p1 : Int32} {p2 : Int32} {p3 : Int32} {p4 : Int32} {p5 : Int32} {p6 : Int32} {p7 : (Nat → Int32)} {p8 : (Nat → Int32)} {p9 : (Nat → Int32)} {p10 : (Nat → Int32)} {p11 : (Nat → Int32)} {p12 : (Nat → Int32)} {p13 : (Nat → Int64)} {p14 : (Nat → Int32)} {p15 : (Nat → Int32)} {p16 : (Nat → Int32)} {p17 : (Nat → Int32)} {v3 : (Nat → Int64)} (hL : L ≤ 8) (hi : i + 6 ≤ L) (hK : gdK K (nI (i + 6))) (h1 : RLt n nd R T tm bt cl tk) (h2 : RLc M cb cu) (h3 : RLg n K0 go) (h4 : RLw R no fo kp ws ke wy) : ∃ o, f_L_law_528 L xs K (nI T) (lN (TS tk T)) (nI ws.toNat) (aI tk) (nI n) (nI nd) (nI R) (aI bt) (aI (ccF nd cl)) (aL (roF R bt)) (aL (csF n nd R bt cl)) (aI (duF nd tm)) (nI cu) s1 s2 s3 s4 s5 s6 (nI K0) (aI go) s7 s8 (nI no) (nI fo) s9 s10 s11 s12 (aL ke) s13 s14 s15 s16 s17 s18 s19 th (nI n) (nI nd) (nI R) (nI M) p1 (nI T) p2 p3 p4 p5 p6 (nI kp) (nI K0) (nI no) (aI tm) (aI bt) (aI cl) (aI cb) p7 (aI tk) p8 p9 p10 p11 p12 (aL wy) p13 (aI go) p14 p15 p16 p17 v3 (nI i) = some o ∧ o.1 = 1 := by
  unfold f_L_law_528 f_L_law_581 f_L_law_840 f_L_open f_X5_thrown
  rw [if_neg (rk_ix1 hi hL)]
  rcases rf_open (th := th) (v1 := p9) (v2 := p12) (v3 := p16) (v4 := p17) h1 (xs (nI i + (1 : Int32)).toNatClampNeg) with ⟨a, b⟩ | ⟨y, w1, w2, w3, w4, a, b⟩
  · rw [a, Option.bind_some]
    dsimp only [gx]
    rw [if_pos rfl, Option.bind_some, if_neg (rk_ix1 hi hL)]
    rw [b, Option.bind_some]
    dsimp only
    rw [Option.bind_some]
    dsimp only
    rw [if_pos (show nI 1 = (1 : Int32) from rfl), if_neg (show ¬ (1 : Int32) = 0 by decide)]
    rw [rk_6]
    exact hK n nd R T K0 M cu no fo kp ws tm bt cl tk go cb ke wy _ _ _ _ _ _ _ _ _ _ _ _ _ _ _ _ _ _ _ _ _ _ _ _ _ _ _ _ _ _ _ _ _ _ _ _ _ _ h1 h2 h3 h4
  · rw [a, Option.bind_some]
    dsimp only [gx]
    rw [if_neg (show ¬ ((0 : Int32) < 0 ∨ 1 ≤ (0 : Int32).toNatClampNeg) by decide), Option.bind_some, if_neg (rk_ix1 hi hL)]
    rw [b, Option.bind_some]
    dsimp only
    rw [Option.bind_some]
    dsimp only
    rw [if_pos (show nI 0 = (0 : Int32) from rfl), if_pos (show (0 : Int32) = 0 from rfl), if_neg (show ¬ ((0 : Int32) < 0 ∨ 1 ≤ (0 : Int32).toNatClampNeg) by decide), if_pos (rk_cmp _ _)]
    rw [rk_6]
    exact hK n nd R T K0 M cu no fo kp ws tm bt cl tk go cb ke wy _ _ _ _ _ _ _ _ _ _ _ _ _ _ _ _ _ _ _ _ _ _ _ _ _ _ _ _ _ _ _ _ _ _ _ _ _ _ h1 h2 h3 h4
theorem cs_8 {L i : Nat} {xs : Nat → Int32} {K : Int32 → Int64 → Int32 → (Nat → Int32) → Int32 → Int32 → Int32 → (Nat → Int32) → (Nat → Int32) → (Nat → Int64) → (Nat → Int64) → (Nat → Int32) → Int32 → Int32 → Int32 → Int32 → Int32 → Int32 → (Nat → Int32) → Int32 → (Nat → Int32) → (Nat → Int32) → (Nat → Int32) → Int32 → Int32 → (Nat → Int64) → (Nat → Int64) → (Nat → Int64) → (Nat → Int32) → (Nat → Int64) → Int32 → Int32 → (Nat → Int64) → (Nat → Int64) → (Nat → Int64) → (Nat → Int32) → (Nat → Int64) → Int32 → Int32 → Int32 → Int32 → Int32 → Int32 → Int32 → Int32 → Int32 → Int32 → Int32 → Int32 → Int32 → Int32 → Int32 → (Nat → Int32) → (Nat → Int32) → (Nat → Int32) → (Nat → Int32) → (Nat → Int32) → (Nat → Int32) → (Nat → Int32) → (Nat → Int32) → (Nat → Int32) → (Nat → Int32) → (Nat → Int32) → (Nat → Int64) → (Nat → Int64) → (Nat → Int32) → (Nat → Int32) → (Nat → Int32) → (Nat → Int32) → (Nat → Int32) → (Nat → Int64) → Int32 → Option OL} {n nd R T K0 M cu no fo kp : Nat} {ws : Bool} {tm bt cl tk go cb ke wy : Nat → Nat} {s1 : Int32} {s2 : Int32} {s3 : Int32} {s4 : Int32} {s5 : Int32} {s6 : (Nat → Int32)} {s7 : (Nat → Int32)} {s8 : (Nat → Int32)} {s9 : (Nat → Int64)} {s10 : (Nat → Int64)} {s11 : (Nat → Int64)} {s12 : (Nat → Int32)} {s13 : Int32} {s14 : Int32} {s15 : (Nat → Int64)} {s16 : (Nat → Int64)} {s17 : (Nat → Int64)} {s18 : (Nat → Int32)} {s19 : (Nat → Int64)} {th : Int32} {p1 : Int32} {p2 : Int32} {p3 : Int32} {p4 : Int32} {p5 : Int32} {p6 : Int32} {p7 : (Nat → Int32)} {p8 : (Nat → Int32)} {p9 : (Nat → Int32)} {p10 : (Nat → Int32)} {p11 : (Nat → Int32)} {p12 : (Nat → Int32)} {p13 : (Nat → Int64)} {p14 : (Nat → Int32)} {p15 : (Nat → Int32)} {p16 : (Nat → Int32)} {p17 : (Nat → Int32)} {v3 : (Nat → Int64)} (hL : L ≤ 8) (hi : i + 6 ≤ L) (hK : gdK K (nI (i + 6))) (h1 : RLt n nd R T tm bt cl tk) (h2 : RLc M cb cu) (h3 : RLg n K0 go) (h4 : RLw R no fo kp ws ke wy) : ∃ o, f_L_law_584 L xs K (nI T) (lN (TS tk T)) (nI ws.toNat) (aI tk) (nI n) (nI nd) (nI R) (aI bt) (aI (ccF nd cl)) (aL (roF R bt)) (aL (csF n nd R bt cl)) (aI (duF nd tm)) (nI cu) s1 s2 s3 s4 s5 s6 (nI K0) (aI go) s7 s8 (nI no) (nI fo) s9 s10 s11 s12 (aL ke) s13 s14 s15 s16 s17 s18 s19 th (nI n) (nI nd) (nI R) (nI M) p1 (nI T) p2 p3 p4 p5 p6 (nI kp) (nI K0) (nI no) (aI tm) (aI bt) (aI cl) (aI cb) p7 (aI tk) p8 p9 p10 p11 p12 (aL wy) p13 (aI go) p14 p15 p16 p17 v3 (nI i) = some o ∧ o.1 = 1 := by
  unfold f_L_law_584 f_L_law_840
  rw [if_neg (rk_ix1 hi hL)]
  obtain ⟨y, no', fo', kp', ws', ke', wy', a1, a2, a3, a4, b1, b2, b3, b4, c1, c2, c3, c4, c5, c6, c7, a, b, c⟩ := rg_ways (th := th) (vch := p2) (vno := p3) (vfo := p4) (vsp := p5) (u1 := s9) (u2 := s10) (u3 := s11) (u4 := s12) (v1 := p8) (v2 := p9) (v3 := p10) (v4 := p11) (v5 := p12) (v6 := p16) (v7 := p17) h1 h4 (xs (nI i + (1 : Int32)).toNatClampNeg)
  rw [a, Option.bind_some, if_neg (rk_ix1 hi hL), b, Option.bind_some]
  dsimp only
  rw [if_pos rfl, rk_6]
  exact hK n nd R T K0 M cu no' fo' kp' ws' tm bt cl tk go cb ke' wy' _ _ _ _ _ _ _ _ _ _ _ _ _ _ _ _ _ _ _ _ _ _ _ _ _ _ _ _ _ _ _ _ _ _ _ _ _ _ h1 h2 h3 c
theorem cs_9 {L i : Nat} {xs : Nat → Int32} {K : Int32 → Int64 → Int32 → (Nat → Int32) → Int32 → Int32 → Int32 → (Nat → Int32) → (Nat → Int32) → (Nat → Int64) → (Nat → Int64) → (Nat → Int32) → Int32 → Int32 → Int32 → Int32 → Int32 → Int32 → (Nat → Int32) → Int32 → (Nat → Int32) → (Nat → Int32) → (Nat → Int32) → Int32 → Int32 → (Nat → Int64) → (Nat → Int64) → (Nat → Int64) → (Nat → Int32) → (Nat → Int64) → Int32 → Int32 → (Nat → Int64) → (Nat → Int64) → (Nat → Int64) → (Nat → Int32) → (Nat → Int64) → Int32 → Int32 → Int32 → Int32 → Int32 → Int32 → Int32 → Int32 → Int32 → Int32 → Int32 → Int32 → Int32 → Int32 → Int32 → (Nat → Int32) → (Nat → Int32) → (Nat → Int32) → (Nat → Int32) → (Nat → Int32) → (Nat → Int32) → (Nat → Int32) → (Nat → Int32) → (Nat → Int32) → (Nat → Int32) → (Nat → Int32) → (Nat → Int64) → (Nat → Int64) → (Nat → Int32) → (Nat → Int32) → (Nat → Int32) → (Nat → Int32) → (Nat → Int32) → (Nat → Int64) → Int32 → Option OL} {n nd R T K0 M cu no fo kp : Nat} {ws : Bool} {tm bt cl tk go cb ke wy : Nat → Nat} {s1 : Int32} {s2 : Int32} {s3 : Int32} {s4 : Int32} {s5 : Int32} {s6 : (Nat → Int32)} {s7 : (Nat → Int32)} {s8 : (Nat → Int32)} {s9 : (Nat → Int64)} {s10 : (Nat → Int64)} {s11 : (Nat → Int64)} {s12 : (Nat → Int32)} {s13 : Int32} {s14 : Int32} {s15 : (Nat → Int64)} {s16 : (Nat → Int64)} {s17 : (Nat → Int64)} {s18 : (Nat → Int32)} {s19 : (Nat → Int64)} {th : Int32} {p1 : Int32} {p2 : Int32} {p3 : Int32} {p4 : Int32} {p5 : Int32} {p6 : Int32} {p7 : (Nat → Int32)} {p8 : (Nat → Int32)} {p9 : (Nat → Int32)} {p10 : (Nat → Int32)} {p11 : (Nat → Int32)} {p12 : (Nat → Int32)} {p13 : (Nat → Int64)} {p14 : (Nat → Int32)} {p15 : (Nat → Int32)} {p16 : (Nat → Int32)} {p17 : (Nat → Int32)} {v3 : (Nat → Int64)} (hL : L ≤ 8) (hi : i + 6 ≤ L) (hK : gdK K (nI (i + 6))) (h1 : RLt n nd R T tm bt cl tk) (h2 : RLc M cb cu) (h3 : RLg n K0 go) (h4 : RLw R no fo kp ws ke wy) : ∃ o, f_L_law_609 L xs K (nI T) (lN (TS tk T)) (nI ws.toNat) (aI tk) (nI n) (nI nd) (nI R) (aI bt) (aI (ccF nd cl)) (aL (roF R bt)) (aL (csF n nd R bt cl)) (aI (duF nd tm)) (nI cu) s1 s2 s3 s4 s5 s6 (nI K0) (aI go) s7 s8 (nI no) (nI fo) s9 s10 s11 s12 (aL ke) s13 s14 s15 s16 s17 s18 s19 th (nI n) (nI nd) (nI R) (nI M) p1 (nI T) p2 p3 p4 p5 p6 (nI kp) (nI K0) (nI no) (aI tm) (aI bt) (aI cl) (aI cb) p7 (aI tk) p8 p9 p10 p11 p12 (aL wy) p13 (aI go) p14 p15 p16 p17 v3 (nI i) = some o ∧ o.1 = 1 := by
  unfold f_L_law_609 f_L_law_840
  unfold f_X4_nodes f_X5_nodes
  rw [Option.bind_some, Option.bind_some]
  dsimp only
  rw [if_pos rfl, rk_6]
  exact hK n nd R T K0 M cu no fo kp ws tm bt cl tk go cb ke wy _ _ _ _ _ _ _ _ _ _ _ _ _ _ _ _ _ _ _ _ _ _ _ _ _ _ _ _ _ _ _ _ _ _ _ _ _ _ h1 h2 h3 h4
theorem cs_10 {L i : Nat} {xs : Nat → Int32} {K : Int32 → Int64 → Int32 → (Nat → Int32) → Int32 → Int32 → Int32 → (Nat → Int32) → (Nat → Int32) → (Nat → Int64) → (Nat → Int64) → (Nat → Int32) → Int32 → Int32 → Int32 → Int32 → Int32 → Int32 → (Nat → Int32) → Int32 → (Nat → Int32) → (Nat → Int32) → (Nat → Int32) → Int32 → Int32 → (Nat → Int64) → (Nat → Int64) → (Nat → Int64) → (Nat → Int32) → (Nat → Int64) → Int32 → Int32 → (Nat → Int64) → (Nat → Int64) → (Nat → Int64) → (Nat → Int32) → (Nat → Int64) → Int32 → Int32 → Int32 → Int32 → Int32 → Int32 → Int32 → Int32 → Int32 → Int32 → Int32 → Int32 → Int32 → Int32 → Int32 → (Nat → Int32) → (Nat → Int32) → (Nat → Int32) → (Nat → Int32) → (Nat → Int32) → (Nat → Int32) → (Nat → Int32) → (Nat → Int32) → (Nat → Int32) → (Nat → Int32) → (Nat → Int32) → (Nat → Int64) → (Nat → Int64) → (Nat → Int32) → (Nat → Int32) → (Nat → Int32) → (Nat → Int32) → (Nat → Int32) → (Nat → Int64) → Int32 → Option OL} {n nd R T K0 M cu no fo kp : Nat} {ws : Bool} {tm bt cl tk go cb ke wy : Nat → Nat} {s1 : Int32} {s2 : Int32} {s3 : Int32} {s4 : Int32} {s5 : Int32} {s6 : (Nat → Int32)} {s7 : (Nat → Int32)} {s8 : (Nat → Int32)} {s9 : (Nat → Int64)} {s10 : (Nat → Int64)} {s11 : (Nat → Int64)} {s12 : (Nat → Int32)} {s13 : Int32} {s14 : Int32} {s15 : (Nat → Int64)} {s16 : (Nat → Int64)} {s17 : (Nat → Int64)} {s18 : (Nat → Int32)} {s19 : (Nat → Int64)} {th : Int32} {p1 : Int32} {p2 : Int32} {p3 : Int32} {p4 : Int32} {p5 : Int32} {p6 : Int32} {p7 : (Nat → Int32)} {p8 : (Nat → Int32)} {p9 : (Nat → Int32)} {p10 : (Nat → Int32)} {p11 : (Nat → Int32)} {p12 : (Nat → Int32)} {p13 : (Nat → Int64)} {p14 : (Nat → Int32)} {p15 : (Nat → Int32)} {p16 : (Nat → Int32)} {p17 : (Nat → Int32)} {v3 : (Nat → Int64)} (hL : L ≤ 8) (hi : i + 6 ≤ L) (hK : gdK K (nI (i + 6))) (h1 : RLt n nd R T tm bt cl tk) (h2 : RLc M cb cu) (h3 : RLg n K0 go) (h4 : RLw R no fo kp ws ke wy) : ∃ o, f_L_law_622 L xs K (nI T) (lN (TS tk T)) (nI ws.toNat) (aI tk) (nI n) (nI nd) (nI R) (aI bt) (aI (ccF nd cl)) (aL (roF R bt)) (aL (csF n nd R bt cl)) (aI (duF nd tm)) (nI cu) s1 s2 s3 s4 s5 s6 (nI K0) (aI go) s7 s8 (nI no) (nI fo) s9 s10 s11 s12 (aL ke) s13 s14 s15 s16 s17 s18 s19 th (nI n) (nI nd) (nI R) (nI M) p1 (nI T) p2 p3 p4 p5 p6 (nI kp) (nI K0) (nI no) (aI tm) (aI bt) (aI cl) (aI cb) p7 (aI tk) p8 p9 p10 p11 p12 (aL wy) p13 (aI go) p14 p15 p16 p17 v3 (nI i) = some o ∧ o.1 = 1 := by
  unfold f_L_law_622 f_L_law_840
  rw [if_neg (rk_ix1 hi hL), if_neg (rk_ix2 hi hL)]
  obtain ⟨y, a, b⟩ := rg_way (th := th) h1.1.2.2.2.1 h4 (xs (nI i + (1 : Int32)).toNatClampNeg) (xs (nI i + (2 : Int32)).toNatClampNeg)
  rw [a, Option.bind_some, if_neg (rk_ix1 hi hL), if_neg (rk_ix2 hi hL), b, Option.bind_some]
  dsimp only
  rw [if_pos rfl, rk_6]
  exact hK n nd R T K0 M cu no fo kp ws tm bt cl tk go cb ke wy _ _ _ _ _ _ _ _ _ _ _ _ _ _ _ _ _ _ _ _ _ _ _ _ _ _ _ _ _ _ _ _ _ _ _ _ _ _ h1 h2 h3 h4
theorem cs_11 {L i : Nat} {xs : Nat → Int32} {K : Int32 → Int64 → Int32 → (Nat → Int32) → Int32 → Int32 → Int32 → (Nat → Int32) → (Nat → Int32) → (Nat → Int64) → (Nat → Int64) → (Nat → Int32) → Int32 → Int32 → Int32 → Int32 → Int32 → Int32 → (Nat → Int32) → Int32 → (Nat → Int32) → (Nat → Int32) → (Nat → Int32) → Int32 → Int32 → (Nat → Int64) → (Nat → Int64) → (Nat → Int64) → (Nat → Int32) → (Nat → Int64) → Int32 → Int32 → (Nat → Int64) → (Nat → Int64) → (Nat → Int64) → (Nat → Int32) → (Nat → Int64) → Int32 → Int32 → Int32 → Int32 → Int32 → Int32 → Int32 → Int32 → Int32 → Int32 → Int32 → Int32 → Int32 → Int32 → Int32 → (Nat → Int32) → (Nat → Int32) → (Nat → Int32) → (Nat → Int32) → (Nat → Int32) → (Nat → Int32) → (Nat → Int32) → (Nat → Int32) → (Nat → Int32) → (Nat → Int32) → (Nat → Int32) → (Nat → Int64) → (Nat → Int64) → (Nat → Int32) → (Nat → Int32) → (Nat → Int32) → (Nat → Int32) → (Nat → Int32) → (Nat → Int64) → Int32 → Option OL} {n nd R T K0 M cu no fo kp : Nat} {ws : Bool} {tm bt cl tk go cb ke wy : Nat → Nat} {s1 : Int32} {s2 : Int32} {s3 : Int32} {s4 : Int32} {s5 : Int32} {s6 : (Nat → Int32)} {s7 : (Nat → Int32)} {s8 : (Nat → Int32)} {s9 : (Nat → Int64)} {s10 : (Nat → Int64)} {s11 : (Nat → Int64)} {s12 : (Nat → Int32)} {s13 : Int32} {s14 : Int32} {s15 : (Nat → Int64)} {s16 : (Nat → Int64)} {s17 : (Nat → Int64)} {s18 : (Nat → Int32)} {s19 : (Nat → Int64)} {th : Int32} {p1 : Int32} {p2 : Int32} {p3 : Int32} {p4 : Int32} {p5 : Int32} {p6 : Int32} {p7 : (Nat → Int32)} {p8 : (Nat → Int32)} {p9 : (Nat → Int32)} {p10 : (Nat → Int32)} {p11 : (Nat → Int32)} {p12 : (Nat → Int32)} {p13 : (Nat → Int64)} {p14 : (Nat → Int32)} {p15 : (Nat → Int32)} {p16 : (Nat → Int32)} {p17 : (Nat → Int32)} {v3 : (Nat → Int64)} (hL : L ≤ 8) (hi : i + 6 ≤ L) (hK : gdK K (nI (i + 6))) (h1 : RLt n nd R T tm bt cl tk) (h2 : RLc M cb cu) (h3 : RLg n K0 go) (h4 : RLw R no fo kp ws ke wy) : ∃ o, f_L_law_659 L xs K (nI T) (lN (TS tk T)) (nI ws.toNat) (aI tk) (nI n) (nI nd) (nI R) (aI bt) (aI (ccF nd cl)) (aL (roF R bt)) (aL (csF n nd R bt cl)) (aI (duF nd tm)) (nI cu) s1 s2 s3 s4 s5 s6 (nI K0) (aI go) s7 s8 (nI no) (nI fo) s9 s10 s11 s12 (aL ke) s13 s14 s15 s16 s17 s18 s19 th (nI n) (nI nd) (nI R) (nI M) p1 (nI T) p2 p3 p4 p5 p6 (nI kp) (nI K0) (nI no) (aI tm) (aI bt) (aI cl) (aI cb) p7 (aI tk) p8 p9 p10 p11 p12 (aL wy) p13 (aI go) p14 p15 p16 p17 v3 (nI i) = some o ∧ o.1 = 1 := by
  unfold f_L_law_659 f_L_law_840
  rcases re_turn (th := th) h1.1.2.1 h3 with ⟨a, b⟩ | ⟨go', a, b, c⟩
  · rw [a, Option.bind_some, b, Option.bind_some]
    dsimp only
    rw [if_pos rfl, rk_6]
    exact hK n nd R T K0 M cu no fo kp ws tm bt cl tk go cb ke wy _ _ _ _ _ _ _ _ _ _ _ _ _ _ _ _ _ _ _ _ _ _ _ _ _ _ _ _ _ _ _ _ _ _ _ _ _ _ h1 h2 h3 h4
  · rw [a, Option.bind_some, b, Option.bind_some]
    dsimp only
    rw [if_pos rfl, rk_6]
    exact hK n nd R T (K0 + 1) M cu no fo kp ws tm bt cl tk go' cb ke wy _ _ _ _ _ _ _ _ _ _ _ _ _ _ _ _ _ _ _ _ _ _ _ _ _ _ _ _ _ _ _ _ _ _ _ _ _ _ h1 h2 c h4
theorem cs_12 {L i : Nat} {xs : Nat → Int32} {K : Int32 → Int64 → Int32 → (Nat → Int32) → Int32 → Int32 → Int32 → (Nat → Int32) → (Nat → Int32) → (Nat → Int64) → (Nat → Int64) → (Nat → Int32) → Int32 → Int32 → Int32 → Int32 → Int32 → Int32 → (Nat → Int32) → Int32 → (Nat → Int32) → (Nat → Int32) → (Nat → Int32) → Int32 → Int32 → (Nat → Int64) → (Nat → Int64) → (Nat → Int64) → (Nat → Int32) → (Nat → Int64) → Int32 → Int32 → (Nat → Int64) → (Nat → Int64) → (Nat → Int64) → (Nat → Int32) → (Nat → Int64) → Int32 → Int32 → Int32 → Int32 → Int32 → Int32 → Int32 → Int32 → Int32 → Int32 → Int32 → Int32 → Int32 → Int32 → Int32 → (Nat → Int32) → (Nat → Int32) → (Nat → Int32) → (Nat → Int32) → (Nat → Int32) → (Nat → Int32) → (Nat → Int32) → (Nat → Int32) → (Nat → Int32) → (Nat → Int32) → (Nat → Int32) → (Nat → Int64) → (Nat → Int64) → (Nat → Int32) → (Nat → Int32) → (Nat → Int32) → (Nat → Int32) → (Nat → Int32) → (Nat → Int64) → Int32 → Option OL} {n nd R T K0 M cu no fo kp : Nat} {ws : Bool} {tm bt cl tk go cb ke wy : Nat → Nat} {s1 : Int32} {s2 : Int32} {s3 : Int32} {s4 : Int32} {s5 : Int32} {s6 : (Nat → Int32)} {s7 : (Nat → Int32)} {s8 : (Nat → Int32)} {s9 : (Nat → Int64)} {s10 : (Nat → Int64)} {s11 : (Nat → Int64)} {s12 : (Nat → Int32)} {s13 : Int32} {s14 : Int32} {s15 : (Nat → Int64)} {s16 : (Nat → Int64)} {s17 : (Nat → Int64)} {s18 : (Nat → Int32)} {s19 : (Nat → Int64)} {th : Int32} {p1 : Int32} {p2 : Int32} {p3 : Int32} {p4 : Int32} {p5 : Int32} {p6 : Int32} {p7 : (Nat → Int32)} {p8 : (Nat → Int32)} {p9 : (Nat → Int32)} {p10 : (Nat → Int32)} {p11 : (Nat → Int32)} {p12 : (Nat → Int32)} {p13 : (Nat → Int64)} {p14 : (Nat → Int32)} {p15 : (Nat → Int32)} {p16 : (Nat → Int32)} {p17 : (Nat → Int32)} {v3 : (Nat → Int64)} (hL : L ≤ 8) (hi : i + 6 ≤ L) (hK : gdK K (nI (i + 6))) (h1 : RLt n nd R T tm bt cl tk) (h2 : RLc M cb cu) (h3 : RLg n K0 go) (h4 : RLw R no fo kp ws ke wy) : ∃ o, f_L_law_672 L xs K (nI T) (lN (TS tk T)) (nI ws.toNat) (aI tk) (nI n) (nI nd) (nI R) (aI bt) (aI (ccF nd cl)) (aL (roF R bt)) (aL (csF n nd R bt cl)) (aI (duF nd tm)) (nI cu) s1 s2 s3 s4 s5 s6 (nI K0) (aI go) s7 s8 (nI no) (nI fo) s9 s10 s11 s12 (aL ke) s13 s14 s15 s16 s17 s18 s19 th (nI n) (nI nd) (nI R) (nI M) p1 (nI T) p2 p3 p4 p5 p6 (nI kp) (nI K0) (nI no) (aI tm) (aI bt) (aI cl) (aI cb) p7 (aI tk) p8 p9 p10 p11 p12 (aL wy) p13 (aI go) p14 p15 p16 p17 v3 (nI i) = some o ∧ o.1 = 1 := by
  unfold f_L_law_672 f_L_law_750 f_L_law_756 f_L_law_840 f_L_exchange f_L_exchange_18 f_X5_thrown
  rw [if_neg (rk_ix1 hi hL), if_neg (rk_ix2 hi hL), if_neg (rk_ix3 hi hL)]
  rcases re_exchange (th := th) h1.1.2.1 h3 (xs (nI i + (1 : Int32)).toNatClampNeg) (xs (nI i + (2 : Int32)).toNatClampNeg) (xs (nI i + (3 : Int32)).toNatClampNeg) with ⟨a, b⟩ | ⟨e, go', a, b, c⟩
  · rw [a, Option.bind_some]
    dsimp only [gx]
    rw [if_pos rfl, Option.bind_some, if_neg (rk_ix1 hi hL), if_neg (rk_ix2 hi hL), if_neg (rk_ix3 hi hL)]
    rw [b, Option.bind_some]
    dsimp only
    rw [Option.bind_some]
    dsimp only
    rw [if_pos (show nI 1 = (1 : Int32) from rfl), if_neg (show ¬ (1 : Int32) = 0 by decide)]
    rw [rk_6]
    exact hK n nd R T K0 M cu no fo kp ws tm bt cl tk go cb ke wy _ _ _ _ _ _ _ _ _ _ _ _ _ _ _ _ _ _ _ _ _ _ _ _ _ _ _ _ _ _ _ _ _ _ _ _ _ _ h1 h2 h3 h4
  · rw [a, Option.bind_some]
    dsimp only [gx]
    cases e
    · rw [if_pos (show nI (Bool.toNat false) = 0 from rfl), if_neg (show ¬ ((0 : Int32) < 0 ∨ 1 ≤ (0 : Int32).toNatClampNeg) by decide), Option.bind_some, if_neg (rk_ix1 hi hL), if_neg (rk_ix2 hi hL), if_neg (rk_ix3 hi hL), b, Option.bind_some]
      dsimp only
      rw [Option.bind_some]
      dsimp only
      rw [if_pos (show nI 0 = (0 : Int32) from rfl), if_pos (show (0 : Int32) = 0 from rfl), if_neg (show ¬ ((0 : Int32) < 0 ∨ 1 ≤ (0 : Int32).toNatClampNeg) by decide), if_pos (show nI (Bool.toNat false) = 0 from rfl), if_pos (rk_cmp _ _)]
      rw [rk_6]
      exact hK n nd R T K0 M cu no fo kp ws tm bt cl tk go' cb ke wy _ _ _ _ _ _ _ _ _ _ _ _ _ _ _ _ _ _ _ _ _ _ _ _ _ _ _ _ _ _ _ _ _ _ _ _ _ _ h1 h2 c h4
    · rw [if_neg (show ¬ nI (Bool.toNat true) = 0 by decide), if_neg (show ¬ ((0 : Int32) < 0 ∨ 1 ≤ (0 : Int32).toNatClampNeg) by decide), Option.bind_some, if_neg (rk_ix1 hi hL), if_neg (rk_ix2 hi hL), if_neg (rk_ix3 hi hL), b, Option.bind_some]
      dsimp only
      rw [Option.bind_some]
      dsimp only
      rw [if_pos (show nI 0 = (0 : Int32) from rfl), if_pos (show (0 : Int32) = 0 from rfl), if_neg (show ¬ ((0 : Int32) < 0 ∨ 1 ≤ (0 : Int32).toNatClampNeg) by decide), if_neg (show ¬ nI (Bool.toNat true) = 0 by decide), if_pos (rk_cmp _ _)]
      rw [rk_6]
      exact hK n nd R T K0 M cu no fo kp ws tm bt cl tk go' cb ke wy _ _ _ _ _ _ _ _ _ _ _ _ _ _ _ _ _ _ _ _ _ _ _ _ _ _ _ _ _ _ _ _ _ _ _ _ _ _ h1 h2 c h4
theorem cs_13 {L i : Nat} {xs : Nat → Int32} {K : Int32 → Int64 → Int32 → (Nat → Int32) → Int32 → Int32 → Int32 → (Nat → Int32) → (Nat → Int32) → (Nat → Int64) → (Nat → Int64) → (Nat → Int32) → Int32 → Int32 → Int32 → Int32 → Int32 → Int32 → (Nat → Int32) → Int32 → (Nat → Int32) → (Nat → Int32) → (Nat → Int32) → Int32 → Int32 → (Nat → Int64) → (Nat → Int64) → (Nat → Int64) → (Nat → Int32) → (Nat → Int64) → Int32 → Int32 → (Nat → Int64) → (Nat → Int64) → (Nat → Int64) → (Nat → Int32) → (Nat → Int64) → Int32 → Int32 → Int32 → Int32 → Int32 → Int32 → Int32 → Int32 → Int32 → Int32 → Int32 → Int32 → Int32 → Int32 → Int32 → (Nat → Int32) → (Nat → Int32) → (Nat → Int32) → (Nat → Int32) → (Nat → Int32) → (Nat → Int32) → (Nat → Int32) → (Nat → Int32) → (Nat → Int32) → (Nat → Int32) → (Nat → Int32) → (Nat → Int64) → (Nat → Int64) → (Nat → Int32) → (Nat → Int32) → (Nat → Int32) → (Nat → Int32) → (Nat → Int32) → (Nat → Int64) → Int32 → Option OL} {n nd R T K0 M cu no fo kp : Nat} {ws : Bool} {tm bt cl tk go cb ke wy : Nat → Nat} {s1 : Int32} {s2 : Int32} {s3 : Int32} {s4 : Int32} {s5 : Int32} {s6 : (Nat → Int32)} {s7 : (Nat → Int32)} {s8 : (Nat → Int32)} {s9 : (Nat → Int64)} {s10 : (Nat → Int64)} {s11 : (Nat → Int64)} {s12 : (Nat → Int32)} {s13 : Int32} {s14 : Int32} {s15 : (Nat → Int64)} {s16 : (Nat → Int64)} {s17 : (Nat → Int64)} {s18 : (Nat → Int32)} {s19 : (Nat → Int64)} {th : Int32} {p1 : Int32} {p2 : Int32} {p3 : Int32} {p4 : Int32} {p5 : Int32} {p6 : Int32} {p7 : (Nat → Int32)} {p8 : (Nat → Int32)} {p9 : (Nat → Int32)} {p10 : (Nat → Int32)} {p11 : (Nat → Int32)} {p12 : (Nat → Int32)} {p13 : (Nat → Int64)} {p14 : (Nat → Int32)} {p15 : (Nat → Int32)} {p16 : (Nat → Int32)} {p17 : (Nat → Int32)} {v3 : (Nat → Int64)} (hL : L ≤ 8) (hi : i + 6 ≤ L) (hK : gdK K (nI (i + 6))) (h1 : RLt n nd R T tm bt cl tk) (h2 : RLc M cb cu) (h3 : RLg n K0 go) (h4 : RLw R no fo kp ws ke wy) (hR0 : R = 0) (hK0 : K0 = 0) : ∃ o, f_L_law_759 L xs K (nI T) (lN (TS tk T)) (nI ws.toNat) (aI tk) (nI n) (nI nd) (nI R) (aI bt) (aI (ccF nd cl)) (aL (roF R bt)) (aL (csF n nd R bt cl)) (aI (duF nd tm)) (nI cu) s1 s2 s3 s4 s5 s6 (nI K0) (aI go) s7 s8 (nI no) (nI fo) s9 s10 s11 s12 (aL ke) s13 s14 s15 s16 s17 s18 s19 th (nI n) (nI nd) (nI R) (nI M) p1 (nI T) p2 p3 p4 p5 p6 (nI kp) (nI K0) (nI no) (aI tm) (aI bt) (aI cl) (aI cb) p7 (aI tk) p8 p9 p10 p11 p12 (aL wy) p13 (aI go) p14 p15 p16 p17 v3 (nI i) = some o ∧ o.1 = 1 := by
  unfold f_L_law_759 f_L_law_840
  subst hR0 hK0
  obtain ⟨w0, rfl⟩ := aL_all p13
  obtain ⟨o1, a, a2⟩ := rp_cls (n := n) (nd := nd) (tm := tm) (bt := bt) (cl := cl) (tk := tk) (go := go) (w := w0) (vc := aI (ccF nd cl)) (v1 := s7) (v2 := s8) (y1 := s13) (y2 := s14) (u1 := s15) (u2 := s16) (u3 := s17) (u4 := s18) (u5 := s19) h1.1
  obtain ⟨o2, b, ⟨c, d⟩, e⟩ := rp_ref (tk := tk) (go := go) (ke0 := w0) (vth := th) (vta := nI T) (vch := p2) (vno := p3) (vfo := p4) (vsp := p5) (v1 := p8) (v2 := p9) (v3 := p10) (v4 := p11) (v5 := p12) (v6 := p14) (v7 := p15) (v8 := p16) (v9 := p17) h1.1
  rw [a, Option.bind_some, b, Option.bind_some, d]
  rw [if_pos (a2.trans e.symm), rk_6]
  exact hK n nd 0 T 0 M cu no fo kp ws tm bt cl tk go cb ke wy _ _ _ _ _ _ _ _ _ _ _ _ _ _ _ _ _ _ _ _ _ _ _ _ _ _ _ _ _ _ _ _ _ _ _ _ _ _ h1 h2 h3 h4
theorem cs_14 {L i : Nat} {xs : Nat → Int32} {K : Int32 → Int64 → Int32 → (Nat → Int32) → Int32 → Int32 → Int32 → (Nat → Int32) → (Nat → Int32) → (Nat → Int64) → (Nat → Int64) → (Nat → Int32) → Int32 → Int32 → Int32 → Int32 → Int32 → Int32 → (Nat → Int32) → Int32 → (Nat → Int32) → (Nat → Int32) → (Nat → Int32) → Int32 → Int32 → (Nat → Int64) → (Nat → Int64) → (Nat → Int64) → (Nat → Int32) → (Nat → Int64) → Int32 → Int32 → (Nat → Int64) → (Nat → Int64) → (Nat → Int64) → (Nat → Int32) → (Nat → Int64) → Int32 → Int32 → Int32 → Int32 → Int32 → Int32 → Int32 → Int32 → Int32 → Int32 → Int32 → Int32 → Int32 → Int32 → Int32 → (Nat → Int32) → (Nat → Int32) → (Nat → Int32) → (Nat → Int32) → (Nat → Int32) → (Nat → Int32) → (Nat → Int32) → (Nat → Int32) → (Nat → Int32) → (Nat → Int32) → (Nat → Int32) → (Nat → Int64) → (Nat → Int64) → (Nat → Int32) → (Nat → Int32) → (Nat → Int32) → (Nat → Int32) → (Nat → Int32) → (Nat → Int64) → Int32 → Option OL} {n nd R T K0 M cu no fo kp : Nat} {ws : Bool} {tm bt cl tk go cb ke wy : Nat → Nat} {s1 : Int32} {s2 : Int32} {s3 : Int32} {s4 : Int32} {s5 : Int32} {s6 : (Nat → Int32)} {s7 : (Nat → Int32)} {s8 : (Nat → Int32)} {s9 : (Nat → Int64)} {s10 : (Nat → Int64)} {s11 : (Nat → Int64)} {s12 : (Nat → Int32)} {s13 : Int32} {s14 : Int32} {s15 : (Nat → Int64)} {s16 : (Nat → Int64)} {s17 : (Nat → Int64)} {s18 : (Nat → Int32)} {s19 : (Nat → Int64)} {th : Int32} {p1 : Int32} {p2 : Int32} {p3 : Int32} {p4 : Int32} {p5 : Int32} {p6 : Int32} {p7 : (Nat → Int32)} {p8 : (Nat → Int32)} {p9 : (Nat → Int32)} {p10 : (Nat → Int32)} {p11 : (Nat → Int32)} {p12 : (Nat → Int32)} {p13 : (Nat → Int64)} {p14 : (Nat → Int32)} {p15 : (Nat → Int32)} {p16 : (Nat → Int32)} {p17 : (Nat → Int32)} {v3 : (Nat → Int64)} (hL : L ≤ 8) (hi : i + 6 ≤ L) (hK : gdK K (nI (i + 6))) (h1 : RLt n nd R T tm bt cl tk) (h2 : RLc M cb cu) (h3 : RLg n K0 go) (h4 : RLw R no fo kp ws ke wy) : ∃ o, f_L_law_772 L xs K (nI T) (lN (TS tk T)) (nI ws.toNat) (aI tk) (nI n) (nI nd) (nI R) (aI bt) (aI (ccF nd cl)) (aL (roF R bt)) (aL (csF n nd R bt cl)) (aI (duF nd tm)) (nI cu) s1 s2 s3 s4 s5 s6 (nI K0) (aI go) s7 s8 (nI no) (nI fo) s9 s10 s11 s12 (aL ke) s13 s14 s15 s16 s17 s18 s19 th (nI n) (nI nd) (nI R) (nI M) p1 (nI T) p2 p3 p4 p5 p6 (nI kp) (nI K0) (nI no) (aI tm) (aI bt) (aI cl) (aI cb) p7 (aI tk) p8 p9 p10 p11 p12 (aL wy) p13 (aI go) p14 p15 p16 p17 v3 (nI i) = some o ∧ o.1 = 1 := by
  unfold f_L_law_772 f_L_law_837 f_L_law_840 f_L_tell f_X5_thrown
  rw [if_neg (rk_ix1 hi hL), if_neg (rk_ix2 hi hL)]
  rcases rg_tell (th := th) h1 (xs (nI i + (1 : Int32)).toNatClampNeg) (xs (nI i + (2 : Int32)).toNatClampNeg) with ⟨a, b⟩ | ⟨y, a, b⟩
  · rw [a, Option.bind_some]
    dsimp only [gx]
    rw [if_pos rfl, Option.bind_some, if_neg (rk_ix1 hi hL), if_neg (rk_ix2 hi hL)]
    rw [b, Option.bind_some]
    dsimp only
    rw [Option.bind_some]
    dsimp only
    rw [if_pos (show nI 1 = (1 : Int32) from rfl), if_neg (show ¬ (1 : Int32) = 0 by decide)]
    rw [rk_6]
    exact hK n nd R T K0 M cu no fo kp ws tm bt cl tk go cb ke wy _ _ _ _ _ _ _ _ _ _ _ _ _ _ _ _ _ _ _ _ _ _ _ _ _ _ _ _ _ _ _ _ _ _ _ _ _ _ h1 h2 h3 h4
  · rw [a, Option.bind_some]
    dsimp only [gx]
    rw [if_neg (show ¬ ((0 : Int32) < 0 ∨ 1 ≤ (0 : Int32).toNatClampNeg) by decide), Option.bind_some, if_neg (rk_ix1 hi hL), if_neg (rk_ix2 hi hL)]
    rw [b, Option.bind_some]
    dsimp only
    rw [Option.bind_some]
    dsimp only
    rw [if_pos (show nI 0 = (0 : Int32) from rfl), if_pos (show (0 : Int32) = 0 from rfl), if_neg (show ¬ ((0 : Int32) < 0 ∨ 1 ≤ (0 : Int32).toNatClampNeg) by decide), if_pos (rk_cmp _ _)]
    rw [rk_6]
    exact hK n nd R T K0 M cu no fo kp ws tm bt cl tk go cb ke wy _ _ _ _ _ _ _ _ _ _ _ _ _ _ _ _ _ _ _ _ _ _ _ _ _ _ _ _ _ _ _ _ _ _ _ _ _ _ h1 h2 h3 h4
theorem rk_end {L : Nat} {xs : Nat → Int32} (hL : L ≤ 8) : ∀ g, 0 < g → gdK (f_L_law_43 L xs g) (nI (2 + 6)) := by
  intro g hg
  obtain ⟨p, rfl, hp⟩ := qt_fuel hg
  intro n nd R T K0 M cu no fo kp ws tm bt cl tk go cb ke wy s1 s2 s3 s4 s5 s6 s7 s8 s9 s10 s11 s12 s13 s14 s15 s16 s17 s18 s19 th p1 p2 p3 p4 p5 p6 p7 p8 p9 p10 p11 p12 p13 p14 p15 p16 p17 v3 h1 h2 h3 h4
  have hcond : ((Int32.ofNat L) - (6 : Int32) < nI (2 + 6)) ↔ L < 2 + 6 + 6 := by
    have e1 : (Int32.ofNat L - (6 : Int32)).toInt = (L : Int) - (6 : Nat) := pk_sub_toInt (a := L) (b := 6) (by omega) (by decide)
    rw [Int32.lt_iff_toInt_lt, e1, nI_toInt (by omega)]
    omega
  simp only [f_L_law_43]
  rw [if_pos (hcond.2 (by omega))]
  exact ⟨_, rfl, rfl⟩
theorem rk_loop {L : Nat} {xs : Nat → Int32} (hL : L ≤ 8) : ∀ g, 1 < g → ∀ (n nd R T K0 M cu no fo kp : Nat) (ws : Bool) (tm bt cl tk go cb ke wy : Nat → Nat) (s1 : Int32) (s2 : Int32) (s3 : Int32) (s4 : Int32) (s5 : Int32) (s6 : (Nat → Int32)) (s7 : (Nat → Int32)) (s8 : (Nat → Int32)) (s9 : (Nat → Int64)) (s10 : (Nat → Int64)) (s11 : (Nat → Int64)) (s12 : (Nat → Int32)) (s13 : Int32) (s14 : Int32) (s15 : (Nat → Int64)) (s16 : (Nat → Int64)) (s17 : (Nat → Int64)) (s18 : (Nat → Int32)) (s19 : (Nat → Int64)) (th : Int32) (p1 : Int32) (p2 : Int32) (p3 : Int32) (p4 : Int32) (p5 : Int32) (p6 : Int32) (p7 : (Nat → Int32)) (p8 : (Nat → Int32)) (p9 : (Nat → Int32)) (p10 : (Nat → Int32)) (p11 : (Nat → Int32)) (p12 : (Nat → Int32)) (p13 : (Nat → Int64)) (p14 : (Nat → Int32)) (p15 : (Nat → Int32)) (p16 : (Nat → Int32)) (p17 : (Nat → Int32)) (v3 : (Nat → Int64)), R = 0 → K0 = 0 → RLt n nd R T tm bt cl tk → RLc M cb cu → RLg n K0 go → RLw R no fo kp ws ke wy → ∃ o, f_L_law_43 L xs g (nI T) (lN (TS tk T)) (nI ws.toNat) (aI tk) (nI n) (nI nd) (nI R) (aI bt) (aI (ccF nd cl)) (aL (roF R bt)) (aL (csF n nd R bt cl)) (aI (duF nd tm)) (nI cu) s1 s2 s3 s4 s5 s6 (nI K0) (aI go) s7 s8 (nI no) (nI fo) s9 s10 s11 s12 (aL ke) s13 s14 s15 s16 s17 s18 s19 th (nI n) (nI nd) (nI R) (nI M) p1 (nI T) p2 p3 p4 p5 p6 (nI kp) (nI K0) (nI no) (aI tm) (aI bt) (aI cl) (aI cb) p7 (aI tk) p8 p9 p10 p11 p12 (aL wy) p13 (aI go) p14 p15 p16 p17 v3 (nI 2) = some o ∧ o.1 = 1 := by
    intro g hg
    obtain ⟨p, rfl, hp⟩ := qt_fuel hg
    intro n nd R T K0 M cu no fo kp ws tm bt cl tk go cb ke wy s1 s2 s3 s4 s5 s6 s7 s8 s9 s10 s11 s12 s13 s14 s15 s16 s17 s18 s19 th p1 p2 p3 p4 p5 p6 p7 p8 p9 p10 p11 p12 p13 p14 p15 p16 p17 v3 hR0 hK0 h1 h2 h3 h4
    have hcond : ((Int32.ofNat L) - (6 : Int32) < nI 2) ↔ L < 2 + 6 := by
      have e1 : (Int32.ofNat L - (6 : Int32)).toInt = (L : Int) - (6 : Nat) := pk_sub_toInt (a := L) (b := 6) (by omega) (by decide)
      rw [Int32.lt_iff_toInt_lt, e1, nI_toInt (by omega)]
      omega
    simp only [f_L_law_43]
    by_cases e : L < 2 + 6
    · rw [if_pos (hcond.2 e)]
      exact ⟨_, rfl, rfl⟩
    · rw [if_neg (fun q => e (hcond.1 q))]
      have hi : 2 + 6 ≤ L := by omega
      have hK : gdK (f_L_law_43 L xs p) (nI (2 + 6)) := rk_end hL p (by omega)
      have hgi : ¬ (nI 2 < 0 ∨ L ≤ (nI 2).toNatClampNeg) := by rw [qz_i0, qz_lt (by omega) (by omega), qz_ix (by omega)]; omega
      rw [if_neg hgi]
      obtain ⟨j, hj, ej⟩ := pk_andE (xs (nI 2).toNatClampNeg) (m := (15 : Int32)) 4 (by decide)
      rw [ej]
      have hj16 : j < 16 := hj
      have hcs : j = 0 ∨ j = 1 ∨ j = 2 ∨ j = 3 ∨ j = 4 ∨ j = 5 ∨ j = 6 ∨ j = 7 ∨ j = 8 ∨ j = 9 ∨ j = 10 ∨ j = 11 ∨ j = 12 ∨ j = 13 ∨ j = 14 ∨ j = 15 := by omega
      rcases hcs with rfl | rfl | rfl | rfl | rfl | rfl | rfl | rfl | rfl | rfl | rfl | rfl | rfl | rfl | rfl | rfl
      · rw [if_neg (show ¬ ((nI 0).toInt < 0 ∨ 14 < (nI 0).toInt) by decide), if_pos (show (nI 0).toInt = 0 by decide)]
        exact cs_0 hL hi hK h1 h2 h3 h4
      · rw [if_neg (show ¬ ((nI 1).toInt < 0 ∨ 14 < (nI 1).toInt) by decide), if_neg (show ¬ (nI 1).toInt = 0 by decide), if_pos (show (nI 1).toInt = 1 by decide)]
        exact cs_1 hL hi hK h1 h2 h3 h4
      · rw [if_neg (show ¬ ((nI 2).toInt < 0 ∨ 14 < (nI 2).toInt) by decide), if_neg (show ¬ (nI 2).toInt = 0 by decide), if_neg (show ¬ (nI 2).toInt = 1 by decide), if_pos (show (nI 2).toInt = 2 by decide)]
        exact cs_2 hL hi hK h1 h2 h3 h4
      · rw [if_neg (show ¬ ((nI 3).toInt < 0 ∨ 14 < (nI 3).toInt) by decide), if_neg (show ¬ (nI 3).toInt = 0 by decide), if_neg (show ¬ (nI 3).toInt = 1 by decide), if_neg (show ¬ (nI 3).toInt = 2 by decide), if_pos (show (nI 3).toInt = 3 by decide)]
        exact cs_3 hL hi hK h1 h2 h3 h4
      · rw [if_neg (show ¬ ((nI 4).toInt < 0 ∨ 14 < (nI 4).toInt) by decide), if_neg (show ¬ (nI 4).toInt = 0 by decide), if_neg (show ¬ (nI 4).toInt = 1 by decide), if_neg (show ¬ (nI 4).toInt = 2 by decide), if_neg (show ¬ (nI 4).toInt = 3 by decide), if_pos (show (nI 4).toInt = 4 by decide)]
        exact cs_4 hL hi hK h1 h2 h3 h4
      · rw [if_neg (show ¬ ((nI 5).toInt < 0 ∨ 14 < (nI 5).toInt) by decide), if_neg (show ¬ (nI 5).toInt = 0 by decide), if_neg (show ¬ (nI 5).toInt = 1 by decide), if_neg (show ¬ (nI 5).toInt = 2 by decide), if_neg (show ¬ (nI 5).toInt = 3 by decide), if_neg (show ¬ (nI 5).toInt = 4 by decide), if_pos (show (nI 5).toInt = 5 by decide)]
        exact cs_5 hL hi hK h1 h2 h3 h4
      · rw [if_neg (show ¬ ((nI 6).toInt < 0 ∨ 14 < (nI 6).toInt) by decide), if_neg (show ¬ (nI 6).toInt = 0 by decide), if_neg (show ¬ (nI 6).toInt = 1 by decide), if_neg (show ¬ (nI 6).toInt = 2 by decide), if_neg (show ¬ (nI 6).toInt = 3 by decide), if_neg (show ¬ (nI 6).toInt = 4 by decide), if_neg (show ¬ (nI 6).toInt = 5 by decide), if_pos (show (nI 6).toInt = 6 by decide)]
        exact cs_6 hL hi hK h1 h2 h3 h4
      · rw [if_neg (show ¬ ((nI 7).toInt < 0 ∨ 14 < (nI 7).toInt) by decide), if_neg (show ¬ (nI 7).toInt = 0 by decide), if_neg (show ¬ (nI 7).toInt = 1 by decide), if_neg (show ¬ (nI 7).toInt = 2 by decide), if_neg (show ¬ (nI 7).toInt = 3 by decide), if_neg (show ¬ (nI 7).toInt = 4 by decide), if_neg (show ¬ (nI 7).toInt = 5 by decide), if_neg (show ¬ (nI 7).toInt = 6 by decide), if_pos (show (nI 7).toInt = 7 by decide)]
        exact cs_7 hL hi hK h1 h2 h3 h4
      · rw [if_neg (show ¬ ((nI 8).toInt < 0 ∨ 14 < (nI 8).toInt) by decide), if_neg (show ¬ (nI 8).toInt = 0 by decide), if_neg (show ¬ (nI 8).toInt = 1 by decide), if_neg (show ¬ (nI 8).toInt = 2 by decide), if_neg (show ¬ (nI 8).toInt = 3 by decide), if_neg (show ¬ (nI 8).toInt = 4 by decide), if_neg (show ¬ (nI 8).toInt = 5 by decide), if_neg (show ¬ (nI 8).toInt = 6 by decide), if_neg (show ¬ (nI 8).toInt = 7 by decide), if_pos (show (nI 8).toInt = 8 by decide)]
        exact cs_8 hL hi hK h1 h2 h3 h4
      · rw [if_neg (show ¬ ((nI 9).toInt < 0 ∨ 14 < (nI 9).toInt) by decide), if_neg (show ¬ (nI 9).toInt = 0 by decide), if_neg (show ¬ (nI 9).toInt = 1 by decide), if_neg (show ¬ (nI 9).toInt = 2 by decide), if_neg (show ¬ (nI 9).toInt = 3 by decide), if_neg (show ¬ (nI 9).toInt = 4 by decide), if_neg (show ¬ (nI 9).toInt = 5 by decide), if_neg (show ¬ (nI 9).toInt = 6 by decide), if_neg (show ¬ (nI 9).toInt = 7 by decide), if_neg (show ¬ (nI 9).toInt = 8 by decide), if_pos (show (nI 9).toInt = 9 by decide)]
        exact cs_9 hL hi hK h1 h2 h3 h4
      · rw [if_neg (show ¬ ((nI 10).toInt < 0 ∨ 14 < (nI 10).toInt) by decide), if_neg (show ¬ (nI 10).toInt = 0 by decide), if_neg (show ¬ (nI 10).toInt = 1 by decide), if_neg (show ¬ (nI 10).toInt = 2 by decide), if_neg (show ¬ (nI 10).toInt = 3 by decide), if_neg (show ¬ (nI 10).toInt = 4 by decide), if_neg (show ¬ (nI 10).toInt = 5 by decide), if_neg (show ¬ (nI 10).toInt = 6 by decide), if_neg (show ¬ (nI 10).toInt = 7 by decide), if_neg (show ¬ (nI 10).toInt = 8 by decide), if_neg (show ¬ (nI 10).toInt = 9 by decide), if_pos (show (nI 10).toInt = 10 by decide)]
        exact cs_10 hL hi hK h1 h2 h3 h4
      · rw [if_neg (show ¬ ((nI 11).toInt < 0 ∨ 14 < (nI 11).toInt) by decide), if_neg (show ¬ (nI 11).toInt = 0 by decide), if_neg (show ¬ (nI 11).toInt = 1 by decide), if_neg (show ¬ (nI 11).toInt = 2 by decide), if_neg (show ¬ (nI 11).toInt = 3 by decide), if_neg (show ¬ (nI 11).toInt = 4 by decide), if_neg (show ¬ (nI 11).toInt = 5 by decide), if_neg (show ¬ (nI 11).toInt = 6 by decide), if_neg (show ¬ (nI 11).toInt = 7 by decide), if_neg (show ¬ (nI 11).toInt = 8 by decide), if_neg (show ¬ (nI 11).toInt = 9 by decide), if_neg (show ¬ (nI 11).toInt = 10 by decide), if_pos (show (nI 11).toInt = 11 by decide)]
        exact cs_11 hL hi hK h1 h2 h3 h4
      · rw [if_neg (show ¬ ((nI 12).toInt < 0 ∨ 14 < (nI 12).toInt) by decide), if_neg (show ¬ (nI 12).toInt = 0 by decide), if_neg (show ¬ (nI 12).toInt = 1 by decide), if_neg (show ¬ (nI 12).toInt = 2 by decide), if_neg (show ¬ (nI 12).toInt = 3 by decide), if_neg (show ¬ (nI 12).toInt = 4 by decide), if_neg (show ¬ (nI 12).toInt = 5 by decide), if_neg (show ¬ (nI 12).toInt = 6 by decide), if_neg (show ¬ (nI 12).toInt = 7 by decide), if_neg (show ¬ (nI 12).toInt = 8 by decide), if_neg (show ¬ (nI 12).toInt = 9 by decide), if_neg (show ¬ (nI 12).toInt = 10 by decide), if_neg (show ¬ (nI 12).toInt = 11 by decide), if_pos (show (nI 12).toInt = 12 by decide)]
        exact cs_12 hL hi hK h1 h2 h3 h4
      · rw [if_neg (show ¬ ((nI 13).toInt < 0 ∨ 14 < (nI 13).toInt) by decide), if_neg (show ¬ (nI 13).toInt = 0 by decide), if_neg (show ¬ (nI 13).toInt = 1 by decide), if_neg (show ¬ (nI 13).toInt = 2 by decide), if_neg (show ¬ (nI 13).toInt = 3 by decide), if_neg (show ¬ (nI 13).toInt = 4 by decide), if_neg (show ¬ (nI 13).toInt = 5 by decide), if_neg (show ¬ (nI 13).toInt = 6 by decide), if_neg (show ¬ (nI 13).toInt = 7 by decide), if_neg (show ¬ (nI 13).toInt = 8 by decide), if_neg (show ¬ (nI 13).toInt = 9 by decide), if_neg (show ¬ (nI 13).toInt = 10 by decide), if_neg (show ¬ (nI 13).toInt = 11 by decide), if_neg (show ¬ (nI 13).toInt = 12 by decide), if_pos (show (nI 13).toInt = 13 by decide)]
        exact cs_13 hL hi hK h1 h2 h3 h4 hR0 hK0
      · rw [if_neg (show ¬ ((nI 14).toInt < 0 ∨ 14 < (nI 14).toInt) by decide), if_neg (show ¬ (nI 14).toInt = 0 by decide), if_neg (show ¬ (nI 14).toInt = 1 by decide), if_neg (show ¬ (nI 14).toInt = 2 by decide), if_neg (show ¬ (nI 14).toInt = 3 by decide), if_neg (show ¬ (nI 14).toInt = 4 by decide), if_neg (show ¬ (nI 14).toInt = 5 by decide), if_neg (show ¬ (nI 14).toInt = 6 by decide), if_neg (show ¬ (nI 14).toInt = 7 by decide), if_neg (show ¬ (nI 14).toInt = 8 by decide), if_neg (show ¬ (nI 14).toInt = 9 by decide), if_neg (show ¬ (nI 14).toInt = 10 by decide), if_neg (show ¬ (nI 14).toInt = 11 by decide), if_neg (show ¬ (nI 14).toInt = 12 by decide), if_neg (show ¬ (nI 14).toInt = 13 by decide)]
        exact cs_14 hL hi hK h1 h2 h3 h4
      · rw [if_pos (show ((nI 15).toInt < 0 ∨ 14 < (nI 15).toInt) by decide)]
        unfold f_L_law_840
        rw [rk_6]
        exact hK n nd R T K0 M cu no fo kp ws tm bt cl tk go cb ke wy _ _ _ _ _ _ _ _ _ _ _ _ _ _ _ _ _ _ _ _ _ _ _ _ _ _ _ _ _ _ _ _ _ _ _ _ _ _ h1 h2 h3 h4
theorem rk_law (L : Nat) (xs : Nat → Int32) (hL : L ≤ 8) : ∃ o, f_L_law L xs = some o ∧ o.1 = 1 := by
  have hcell : ∀ k : Nat, k < 2 → ∃ y, f_L_cell L xs (nI k) = some (y, ()) := by
    intro k hk
    unfold f_L_cell f_L_cell_13
    by_cases e : Int32.ofNat L ≤ nI k
    · rw [if_pos e]; exact ⟨_, rfl⟩
    · rw [if_neg e]
      have e2 : ¬ L ≤ k := fun q => e ((qz_le (a := L) (b := k) (by omega) (by omega)).2 q)
      rw [if_neg (by rw [qz_i0, qz_lt (by omega) (by omega), qz_ix (by omega)]; omega)]
      exact ⟨_, rfl⟩
  obtain ⟨x1, hx1⟩ := hcell 0 (by decide)
  obtain ⟨x2, hx2⟩ := hcell 1 (by decide)
  obtain ⟨n, n1, n2, n3, n4⟩ := rj_n x1
  obtain ⟨q, q1, q2, q3⟩ := rj_o x2 n n2
  unfold f_L_law
  rw [show (0 : Int32) = nI 0 from rfl, show (1 : Int32) = nI 1 from rfl, hx1, Option.bind_some, hx2, Option.bind_some]
  dsimp only
  rw [rj_class x1 x2 n q n2 q1 n3 q2, Option.bind_some, Option.bind_some, Option.bind_some]
  dsimp only
  rw [rj_ref x1 x2 n q n2 q1 n4 q3, Option.bind_some]
  dsimp only
  have hl := rk_loop (xs := xs) hL 1000000 (by omega) n (n - q) 0 0 0 0 0 0 0 0 false t0 z0 z0 z0 z0 z0 z0 z0
    (nI 0) (nI 0) (nI 0) (nI 0) (nI 0) (aI z0) (aI z0) (aI z0) (aL z0) (aL z0) (aL z0) (aI z0) (nI 0) (nI 0) (aL z0) (aL z0) (aL z0) (aI z0) (aL z0) (nI 0) (nI 0) (nI 0) (nI 0) (nI 0) (nI 0) (nI 0) (aI z0) (aI z0) (aI z0) (aI z0) (aI z0) (aI z0) (aL z0) (aI z0) (aI z0) (aI z0) (aI z0) (aL z0) rfl rfl (z_t n1 n2 (by omega)) z_c (z_g n) z_w
  rw [z_cc, z_cs] at hl
  exact hl
