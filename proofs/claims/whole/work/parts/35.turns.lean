/-! along a piece: the speeds of both -/
theorem i2 {M : Int} (h : 2 ≤ M) : (2 : Int32).toInt = 2 ∧ bd 2 M := ⟨rfl, ⟨by show -M ≤ (2 : Int); omega, by show (2 : Int) ≤ M; omega⟩⟩
theorem mulI {x y : Int32} {X Y M N : Int} (hx : x.toInt = X ∧ bd x M) (hy : y.toInt = Y ∧ bd y N) (h : M * N < 2147483648) : (x * y).toInt = X * Y ∧ bd (x * y) (M * N) := by
  have := ml hx.2 hy.2 h
  rw [hx.1, hy.1] at this
  exact this
theorem addI {x y : Int32} {X Y M N : Int} (hx : x.toInt = X ∧ bd x M) (hy : y.toInt = Y ∧ bd y N) (h : M + N < 2147483648) : (x + y).toInt = X + Y ∧ bd (x + y) (M + N) := by
  have := ad hx.2 hy.2 h
  rw [hx.1, hy.1] at this
  exact this
theorem subI {x y : Int32} {X Y M N : Int} (hx : x.toInt = X ∧ bd x M) (hy : y.toInt = Y ∧ bd y N) (h : M + N < 2147483648) : (x - y).toInt = X - Y ∧ bd (x - y) (M + N) := by
  have := sb hx.2 hy.2 h
  rw [hx.1, hy.1] at this
  exact this
theorem negI {x : Int32} {X M : Int} (hx : x.toInt = X ∧ bd x M) (h : M < 2147483648) : (-x).toInt = -X ∧ bd (-x) M := by
  have := ng hx.2 h
  rw [hx.1] at this
  exact this
theorem wideI {x : Int32} {X M : Int} (hx : x.toInt = X ∧ bd x M) : x.toInt64.toInt = X ∧ bl x.toInt64 M := by
  have := bd_l hx.2
  rw [hx.1] at this
  exact this
/-- the six numbers are small -/
def sm6 (gu : Nat → Int32) : Prop := ∀ k, k < 6 → bd (gu k) 4
theorem sq_b {gu : Nat → Int32} (hg : sm6 gu) {x y : Int32} {M : Int} (hx : bd x M) (hy : bd y M) (h : 12 * (M * M) < 2147483648) (h0 : 0 ≤ M * M) (hM : M < 500000000) : (f_X3_squaresAt gu x y).toInt = (gu 3).toInt * x.toInt * x.toInt + (gu 4).toInt * x.toInt * y.toInt + (gu 5).toInt * y.toInt * y.toInt ∧ bd (f_X3_squaresAt gu x y) (4 * M * M + 4 * M * M + 4 * M * M) := by
  have e : 4 * M * M = 4 * (M * M) := Int.mul_assoc _ _ _
  have g3 : (gu 3).toInt = (gu 3).toInt ∧ bd (gu 3) 4 := ⟨rfl, hg 3 (by decide)⟩
  have g4 : (gu 4).toInt = (gu 4).toInt ∧ bd (gu 4) 4 := ⟨rfl, hg 4 (by decide)⟩
  have g5 : (gu 5).toInt = (gu 5).toInt ∧ bd (gu 5) 4 := ⟨rfl, hg 5 (by decide)⟩
  have hx : x.toInt = x.toInt ∧ bd x M := ⟨rfl, hx⟩
  have hy : y.toInt = y.toInt ∧ bd y M := ⟨rfl, hy⟩
  exact addI (addI (mulI (mulI g3 hx (by omega)) hx (by omega)) (mulI (mulI g4 hx (by omega)) hy (by omega)) (by omega)) (mulI (mulI g5 hy (by omega)) hy (by omega)) (by omega)
theorem at_b {gu : Nat → Int32} (hg : sm6 gu) {x y : Int32} (hx : bd x 6) (hy : bd y 6) : (f_X3_at gu x y).toInt = (gu 0).toInt + (gu 1).toInt * x.toInt + (gu 2).toInt * y.toInt + ((gu 3).toInt * x.toInt * x.toInt + (gu 4).toInt * x.toInt * y.toInt + (gu 5).toInt * y.toInt * y.toInt) ∧ bd (f_X3_at gu x y) 484 := by
  have s := sq_b hg hx hy (by decide) (by decide) (by decide)
  have g0 : (gu 0).toInt = (gu 0).toInt ∧ bd (gu 0) 4 := ⟨rfl, hg 0 (by decide)⟩
  have g1 : (gu 1).toInt = (gu 1).toInt ∧ bd (gu 1) 4 := ⟨rfl, hg 1 (by decide)⟩
  have g2 : (gu 2).toInt = (gu 2).toInt ∧ bd (gu 2) 4 := ⟨rfl, hg 2 (by decide)⟩
  exact addI (addI (addI g0 (mulI g1 ⟨rfl, hx⟩ (by decide)) (by decide)) (mulI g2 ⟨rfl, hy⟩ (by decide)) (by decide)) s (by decide)
theorem byX_b {gu : Nat → Int32} (hg : sm6 gu) {x y : Int32} (hx : bd x 6) (hy : bd y 6) : (f_X3_byX gu x y).toInt = (gu 1).toInt + 2 * (gu 3).toInt * x.toInt + (gu 4).toInt * y.toInt ∧ bd (f_X3_byX gu x y) 76 := by
  have g1 : (gu 1).toInt = (gu 1).toInt ∧ bd (gu 1) 4 := ⟨rfl, hg 1 (by decide)⟩
  have g3 : (gu 3).toInt = (gu 3).toInt ∧ bd (gu 3) 4 := ⟨rfl, hg 3 (by decide)⟩
  have g4 : (gu 4).toInt = (gu 4).toInt ∧ bd (gu 4) 4 := ⟨rfl, hg 4 (by decide)⟩
  exact addI (addI g1 (mulI (mulI (i2 (M := 2) (by decide)) g3 (by decide)) ⟨rfl, hx⟩ (by decide)) (by decide)) (mulI g4 ⟨rfl, hy⟩ (by decide)) (by decide)
theorem byY_b {gu : Nat → Int32} (hg : sm6 gu) {x y : Int32} (hx : bd x 6) (hy : bd y 6) : (f_X3_byY gu x y).toInt = (gu 2).toInt + (gu 4).toInt * x.toInt + 2 * (gu 5).toInt * y.toInt ∧ bd (f_X3_byY gu x y) 76 := by
  have g2 : (gu 2).toInt = (gu 2).toInt ∧ bd (gu 2) 4 := ⟨rfl, hg 2 (by decide)⟩
  have g4 : (gu 4).toInt = (gu 4).toInt ∧ bd (gu 4) 4 := ⟨rfl, hg 4 (by decide)⟩
  have g5 : (gu 5).toInt = (gu 5).toInt ∧ bd (gu 5) 4 := ⟨rfl, hg 5 (by decide)⟩
  exact addI (addI g2 (mulI g4 ⟨rfl, hx⟩ (by decide)) (by decide)) (mulI (mulI (i2 (M := 2) (by decide)) g5 (by decide)) ⟨rfl, hy⟩ (by decide)) (by decide)
/-- the quadratic along a piece, as whole numbers -/
def qA (G3 G4 G5 U V : Int) : Int := G3 * U * U + G4 * U * V + G5 * V * V
def qB (G1 G2 G3 G4 G5 X Y U V : Int) : Int := U * (G1 + 2 * G3 * X + G4 * Y) + V * (G2 + G4 * X + 2 * G5 * Y)
def qC (G0 G1 G2 G3 G4 G5 X Y : Int) : Int := G0 + G1 * X + G2 * Y + (G3 * X * X + G4 * X * Y + G5 * Y * Y)
theorem fo_b {gu xs ys : Nat → Int32} {k : Nat} (hg : sm6 gu) (x0 : bd (xs k) 6) (y0 : bd (ys k) 6) (x1 : bd (xs (k + 1)) 6) (y1 : bd (ys (k + 1)) 6) :
    ((f_X4_follow gu xs ys k).1.toInt = qA (gu 3).toInt (gu 4).toInt (gu 5).toInt ((xs (k + 1)).toInt - (xs k).toInt) ((ys (k + 1)).toInt - (ys k).toInt) ∧ bl (f_X4_follow gu xs ys k).1 1728) ∧
    ((f_X4_follow gu xs ys k).2.1.toInt = qB (gu 1).toInt (gu 2).toInt (gu 3).toInt (gu 4).toInt (gu 5).toInt (xs k).toInt (ys k).toInt ((xs (k + 1)).toInt - (xs k).toInt) ((ys (k + 1)).toInt - (ys k).toInt) ∧ bl (f_X4_follow gu xs ys k).2.1 1824) ∧
    ((f_X4_follow gu xs ys k).2.2.toInt = qC (gu 0).toInt (gu 1).toInt (gu 2).toInt (gu 3).toInt (gu 4).toInt (gu 5).toInt (xs k).toInt (ys k).toInt ∧ bl (f_X4_follow gu xs ys k).2.2 484) := by
  have hu : (f_X0_stepX xs k).toInt = (xs (k + 1)).toInt - (xs k).toInt ∧ bd (f_X0_stepX xs k) 12 := subI ⟨rfl, x1⟩ ⟨rfl, x0⟩ (by decide)
  have hv : (f_X0_stepY ys k).toInt = (ys (k + 1)).toInt - (ys k).toInt ∧ bd (f_X0_stepY ys k) 12 := subI ⟨rfl, y1⟩ ⟨rfl, y0⟩ (by decide)
  have ha := sq_b hg hu.2 hv.2 (by decide) (by decide) (by decide)
  rw [hu.1, hv.1] at ha
  have hb := addI (mulI hu (byX_b hg x0 y0) (by decide)) (mulI hv (byY_b hg x0 y0) (by decide)) (by decide)
  exact ⟨wideI ha, wideI hb, wideI (at_b hg x0 y0)⟩
section PIECE
variable {fu fv xs ys : Nat → Int32} {n : Nat} {nw : Nat → Int32}
theorem e_fol (h : RA fu fv xs ys n nw) {k : Nat} (hk : k < n) {gu : Nat → Int32} {b : Int32} (hs : ra_s gu nw b) : f_X8_follow nw k b n = f_X4_follow gu xs ys k := by
  have hn : 0 < n := by omega
  unfold f_X8_follow f_X4_follow f_X3_squaresAt f_X0_stepX f_X0_stepY
  rw [(ex_x0 h (Nat.le_of_lt hk) hn).1, (ex_x0 h (Nat.le_of_lt hk) hn).2, (ex_x0 h hk hn).1, (ex_x0 h hk hn).2, hs 3 (by decide), hs 4 (by decide), hs 5 (by decide), e_byX hs, e_byY hs, e_at hs, Int32.mul_comm (f_X3_byX gu (xs k) (ys k)), Int32.mul_comm (f_X3_byY gu (xs k) (ys k))]
theorem ra_p (h : RA fu fv xs ys n nw) : sm6 fu := fun k hk => (h.1 k hk).2.2.1
theorem ra_q (h : RA fu fv xs ys n nw) : sm6 fv := fun k hk => (h.1 k hk).2.2.2
theorem ra_c (h : RA fu fv xs ys n nw) {j : Nat} (hj : j ≤ n) (hn : 0 < n) : bd (xs j) 6 ∧ bd (ys j) 6 := by
  rcases Nat.lt_or_ge j n with q | q
  · exact (h.2.2.2.1 j q).2.2
  · have : j = n := by omega
    subst this
    rw [(h.2.2.2.2 hn).1, (h.2.2.2.2 hn).2]
    exact (h.2.2.2.1 0 hn).2.2
/-- across a piece: the same three numbers, and they are not large -/
theorem e_crs (h : RA fu fv xs ys n nw) {k : Nat} (hk : k < n) : f_X8_cross nw k n = (f_X7_followAcross fu fv xs ys k).2.2.2.2.2.2 ∧ bl (f_X8_cross nw k n).1 50000 ∧ bl (f_X8_cross nw k n).2.1 50000 ∧ bl (f_X8_cross nw k n).2.2 50000 := by
  have hn : 0 < n := by omega
  have c0 := ra_c h (Nat.le_of_lt hk) hn
  have c1 := ra_c h hk hn
  have hp := fo_b (ra_p h) c0.1 c0.2 c1.1 c1.2
  have hq := fo_b (ra_q h) c0.1 c0.2 c1.1 c1.2
  have hu : (xs (k + 1) - xs k).toInt = (xs (k + 1)).toInt - (xs k).toInt ∧ bd (xs (k + 1) - xs k) 12 := subI ⟨rfl, c1.1⟩ ⟨rfl, c0.1⟩ (by decide)
  have hv : (ys (k + 1) - ys k).toInt = (ys (k + 1)).toInt - (ys k).toInt ∧ bd (ys (k + 1) - ys k) 12 := subI ⟨rfl, c1.2⟩ ⟨rfl, c0.2⟩ (by decide)
  have hnv : (-(ys (k + 1) - ys k)).toInt64 = -((ys (k + 1) - ys k).toInt64) := Int64.toInt_inj.mp (by rw [(wideI (negI hv (by decide))).1, (negL (wideI hv) (by decide)).1])
  have e0 := e_fol h hk (ra_0 h)
  have e1 := e_fol h hk (ra_1 h)
  have X0 := ex_x0 h (Nat.le_of_lt hk) hn
  have X1 := ex_x0 h hk hn
  have hE : f_X8_cross nw k n = (f_X7_followAcross fu fv xs ys k).2.2.2.2.2.2 := by
    unfold f_X8_cross f_X7_followAcross f_X4_combine f_X7_followSpeeds f_X0_stepX f_X0_stepY
    rw [e0, e1, X0.1, X0.2, X1.1, X1.2, hnv]
    simp only [Int64.neg_mul, Int64.sub_eq_add_neg]
  refine ⟨hE, ?_, ?_, ?_⟩
  · unfold f_X8_cross
    rw [e0, e1, X0.1, X0.2, X1.1, X1.2]
    exact bl_mono (subL (mulL (wideI hu) hq.1 (by decide)) (mulL (wideI hv) hp.1 (by decide)) (by decide)).2 (by decide)
  · unfold f_X8_cross
    rw [e0, e1, X0.1, X0.2, X1.1, X1.2]
    exact bl_mono (subL (mulL (wideI hu) hq.2.1 (by decide)) (mulL (wideI hv) hp.2.1 (by decide)) (by decide)).2 (by decide)
  · unfold f_X8_cross
    rw [e0, e1, X0.1, X0.2, X1.1, X1.2]
    exact bl_mono (subL (mulL (wideI hu) hq.2.2 (by decide)) (mulL (wideI hv) hp.2.2 (by decide)) (by decide)).2 (by decide)
theorem e_zer (h : RA fu fv xs ys n nw) {k : Nat} (hk : k < n) (ro : Nat) (rt : Nat → Int32) (db : Int32) : (f_X8_zeros nw ro rt db k n).1 = f_X4_zerosOnPiece ((f_X7_followAcross fu fv xs ys k).2.2.2.2.2.2.1) ((f_X7_followAcross fu fv xs ys k).2.2.2.2.2.2.2.1) ((f_X7_followAcross fu fv xs ys k).2.2.2.2.2.2.2.2) ∧ (f_X8_zeros nw ro rt db k n).2.2.2.1 = (f_X7_followAcross fu fv xs ys k).2.2.2.2.2.2.2.2 := by
  obtain ⟨hE, hA, hB, hC⟩ := e_crs h hk
  rw [← hE]
  unfold f_X8_zeros
  generalize f_X8_cross nw k n = t at *
  by_cases h1 : lg_cmp t.1 0 = 0
  · rw [if_pos h1]
    by_cases h2 : lg_cmp t.2.1 0 = 0
    · rw [if_pos h2]
      by_cases h3 : lg_cmp t.2.2 0 = 0
      · rw [if_pos h3]
        refine ⟨?_, rfl⟩
        unfold f_X4_zerosOnPiece f_X4_isZero
        rw [if_pos h1, if_pos h2, if_pos h3, if_neg (by decide)]
      · rw [if_neg h3]
        exact ⟨(zeros_eq hA hB hC (by unfold f_X4_isZero; rw [if_pos h1, if_pos h2, if_neg h3]) rt).symm, rfl⟩
    · rw [if_neg h2]
      exact ⟨(zeros_eq hA hB hC (by unfold f_X4_isZero; rw [if_pos h1, if_neg h2]) rt).symm, rfl⟩
  · rw [if_neg h1]
    exact ⟨(zeros_eq hA hB hC (by unfold f_X4_isZero; rw [if_neg h1]) rt).symm, rfl⟩
theorem e_acr (h : RA fu fv xs ys n nw) {k : Nat} (hk : k < n) (ro : Nat) (rt : Nat → Int32) (db : Int32) : (f_X8_acrossOf nw ro rt db k n).1 = (f_X7_signAcross fu fv xs ys k).1 := by
  unfold f_X8_acrossOf f_X7_signAcross
  show (if (f_X8_zeros nw ro rt db k n).1 ≤ 0 then f_X8_sign (f_X8_zeros nw ro rt db k n).2.2.2.1 else 0) = _
  rw [(e_zer h hk ro rt db).1, (e_zer h hk ro rt db).2, sign_sg, signum_sg]
theorem e_ref (h : RA fu fv xs ys n nw) (px : Int32) : (f_X8_in px 0 ((nI n) - 1) = 0 ∧ f_X7_refusalOfPiece xs ys n px = -1000001) ∨ (¬ f_X8_in px 0 ((nI n) - 1) = 0 ∧ px.toNatClampNeg < n ∧ f_X7_refusalOfPiece xs ys n px = if f_X8_xOf nw px.toNatClampNeg n = f_X8_xOf nw (px.toNatClampNeg + 1) n then (if f_X8_yOf nw px.toNatClampNeg n = f_X8_yOf nw (px.toNatClampNeg + 1) n then -1000003 else 0) else 0) := by
  have hn8 := h.2.2.1
  by_cases hin : f_X8_in px 0 ((nI n) - 1) = 0
  · refine Or.inl ⟨hin, ?_⟩
    unfold f_X7_refusalOfPiece
    by_cases h0 : px < 0
    · rw [if_pos h0]
    · rw [if_neg h0]
      have h1 : ¬ px < nI n := by
        intro h1
        unfold f_X8_in at hin
        rw [if_neg h0] at hin
        by_cases h2 : nI n - 1 < px
        · obtain ⟨j, hj, rfl⟩ := nI_of h0
          have h4 : j < n := (nI_ltI hj (by omega)).mp h1
          rw [Int32.lt_iff_toInt_lt, nI_toInt hj, show (nI n - 1).toInt = (n : Int) - 1 from pk_sub_toInt (b := 1) (by omega) (by decide)] at h2
          omega
        · rw [if_neg h2] at hin
          exact absurd hin (by decide)
      rw [if_neg h1]
  · obtain ⟨e1, e2⟩ := ix_inn hn8 hin
    refine Or.inr ⟨hin, e2, ?_⟩
    generalize px.toNatClampNeg = j at *
    subst e1
    have hn : 0 < n := by omega
    unfold f_X7_refusalOfPiece f_X0_stepX f_X0_stepY
    rw [if_neg (nI_pos (by omega)), if_pos (nI_lt e2 (by omega)), nI_clamp (by omega), (ex_x0 h (Nat.le_of_lt e2) hn).1, (ex_x0 h (Nat.le_of_lt e2) hn).2, (ex_x0 h e2 hn).1, (ex_x0 h e2 hn).2]
    have q : ∀ x y : Int32, (y - x = 0) ↔ x = y := fun x y => ⟨fun g => by rw [Int32.sub_eq_iff_eq_add] at g; rw [g, Int32.zero_add], fun g => by rw [g, Int32.sub_self]⟩
    by_cases g1 : xs j = xs (j + 1)
    · rw [if_pos g1, if_pos ((q _ _).mpr g1)]
      by_cases g2 : ys j = ys (j + 1)
      · rw [if_pos g2, if_pos ((q _ _).mpr g2)]
      · rw [if_neg g2, if_neg (fun g => g2 ((q _ _).mp g))]
    · rw [if_neg g1, if_neg (fun g => g1 ((q _ _).mp g))]
theorem e_turns (h : RA fu fv xs ys n nw) (ax bx cx ay by_ cy_ aw bw cw aa bb dd : Int64) (ro : Nat) (rt : Nat → Int32) (db fi px : Int32) : (f_X7_turns fu fv xs ys n ax bx cx ay by_ cy_ aw bw cw fi px).1 = (f_X8_turns nw fi aa bb dd ro rt db px n).1 ∧ (f_X7_turns fu fv xs ys n ax bx cx ay by_ cy_ aw bw cw fi px).2.1 = (f_X8_turns nw fi aa bb dd ro rt db px n).2.1 := by
  unfold f_X7_turns f_X8_turns
  rcases e_ref h px with ⟨a1, a2⟩ | ⟨a1, a2, a3⟩
  · rw [if_pos a1, a2, if_neg (by decide)]; exact ⟨rfl, rfl⟩
  · rw [if_neg a1, a3]
    have hz := (e_zer h a2 ro rt db).1
    by_cases g1 : f_X8_xOf nw px.toNatClampNeg n = f_X8_xOf nw (px.toNatClampNeg + 1) n
    · rw [if_pos g1, if_pos g1]
      by_cases g2 : f_X8_yOf nw px.toNatClampNeg n = f_X8_yOf nw (px.toNatClampNeg + 1) n
      · rw [if_pos g2, if_pos g2, if_neg (by decide)]; exact ⟨rfl, rfl⟩
      · rw [if_neg g2, if_neg g2, if_pos rfl]; exact ⟨by dsimp only; exact hz.symm, by dsimp only⟩
    · rw [if_neg g1, if_neg g1, if_pos rfl]; exact ⟨by dsimp only; exact hz.symm, by dsimp only⟩
theorem e_across (h : RA fu fv xs ys n nw) (ax bx cx ay by_ cy_ aw bw cw aa bb dd : Int64) (ro : Nat) (rt : Nat → Int32) (db fi px : Int32) : (f_X7_across fu fv xs ys n ax bx cx ay by_ cy_ aw bw cw fi px).1 = (f_X8_across nw fi aa bb dd ro rt db px n).1 ∧ (f_X7_across fu fv xs ys n ax bx cx ay by_ cy_ aw bw cw fi px).2.1 = (f_X8_across nw fi aa bb dd ro rt db px n).2.1 := by
  unfold f_X7_across f_X8_across
  rcases e_ref h px with ⟨a1, a2⟩ | ⟨a1, a2, a3⟩
  · rw [if_pos a1, a2, if_neg (by decide)]; exact ⟨rfl, rfl⟩
  · rw [if_neg a1, a3]
    have hz := e_acr h a2 ro rt db
    by_cases g1 : f_X8_xOf nw px.toNatClampNeg n = f_X8_xOf nw (px.toNatClampNeg + 1) n
    · rw [if_pos g1, if_pos g1]
      by_cases g2 : f_X8_yOf nw px.toNatClampNeg n = f_X8_yOf nw (px.toNatClampNeg + 1) n
      · rw [if_pos g2, if_pos g2, if_neg (by decide)]; exact ⟨rfl, rfl⟩
      · rw [if_neg g2, if_neg g2, if_pos rfl]; exact ⟨by dsimp only; exact hz.symm, by dsimp only⟩
    · rw [if_neg g1, if_neg g1, if_pos rfl]; exact ⟨by dsimp only; exact hz.symm, by dsimp only⟩
theorem e_heldl (h : RA fu fv xs ys n nw) (ax bx cx ay by_ cy_ aw bw cw aa bb dd : Int64) (ro : Nat) (rt : Nat → Int32) (db fi bq : Int32) : ∀ (f ki : Nat) (q0 q1 q2 q3 q4 q5 q6 q7 q8 : Int64) (r0 : Nat → Int32) (t0 t1 t2 : Int64) (r1 : Nat) (r2 : Int32), ki ≤ n → (l_X7_held_29 fu fv xs ys n ax bx cx ay by_ cy_ aw bw cw fi bq f ki q0 q1 q2 q3 q4 q5 q6 q7 q8).1 = (l_X8_held_23 nw fi aa bb dd ro rt db bq n f ki r0 t0 t1 t2 r1 r2).1 ∧ (l_X7_held_29 fu fv xs ys n ax bx cx ay by_ cy_ aw bw cw fi bq f ki q0 q1 q2 q3 q4 q5 q6 q7 q8).2.1 = (l_X8_held_23 nw fi aa bb dd ro rt db bq n f ki r0 t0 t1 t2 r1 r2).2.1 := by
  have hn8 := h.2.2.1
  intro f
  induction f with
  | zero => intro ki q0 q1 q2 q3 q4 q5 q6 q7 q8 r0 t0 t1 t2 r1 r2 _; exact ⟨rfl, rfl⟩
  | succ f ih =>
    intro ki q0 q1 q2 q3 q4 q5 q6 q7 q8 r0 t0 t1 t2 r1 r2 hki
    unfold l_X7_held_29 l_X8_held_23
    by_cases hc : nI n ≤ nI ki
    · rw [if_pos hc, if_pos hc]; exact ⟨rfl, rfl⟩
    · have hk : ki < n := by
        rcases Nat.lt_or_ge ki n with q | q
        · exact q
        · exact absurd (nI_le q (by omega)) hc
      rw [if_neg hc, if_neg hc, e_acr h hk]
      by_cases g : (f_X7_signAcross fu fv xs ys ki).1 = (if bq = 0 then 1 else (-1))
      · rw [if_pos g, if_pos g]
        exact ih (ki + 1) _ _ _ _ _ _ _ _ _ _ _ _ _ _ _ hk
      · rw [if_neg g, if_neg g]; exact ⟨rfl, rfl⟩
theorem e_held (h : RA fu fv xs ys n nw) (ax bx cx ay by_ cy_ aw bw cw aa bb dd : Int64) (ro : Nat) (rt : Nat → Int32) (db fi bq : Int32) : (f_X7_held fu fv xs ys n ax bx cx ay by_ cy_ aw bw cw fi bq).1 = (f_X8_held nw fi aa bb dd ro rt db bq n).1 ∧ (f_X7_held fu fv xs ys n ax bx cx ay by_ cy_ aw bw cw fi bq).2.1 = (f_X8_held nw fi aa bb dd ro rt db bq n).2.1 := by
  unfold f_X7_held f_X8_held f_X0_isLeft
  rw [e_simple h, e_area h]
  by_cases g1 : f_X0_isSimple xs ys n = 0
  · rw [if_pos g1, if_pos g1, if_pos rfl]; exact ⟨rfl, rfl⟩
  · rw [if_neg g1, if_neg g1]
    by_cases g2 : f_X0_doubleArea xs ys n ≤ 0
    · rw [if_pos g2, if_pos rfl, if_neg (Int32.not_lt.mpr g2)]; exact ⟨rfl, rfl⟩
    · rw [if_neg g2, if_neg (by decide), if_pos (Int32.not_le.mp g2)]
      exact e_heldl h _ _ _ _ _ _ _ _ _ _ _ _ _ _ _ _ _ _ _ _ _ _ _ _ _ _ _ _ _ _ _ _ _ _ (Nat.zero_le _)
end PIECE
