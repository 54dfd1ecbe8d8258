/-! the model's whole part stays small -/
theorem qA_s {G3 G4 G5 U V : Int} (h3 : -4 ≤ G3 ∧ G3 ≤ 4) (h4 : -4 ≤ G4 ∧ G4 ≤ 4) (h5 : -4 ≤ G5 ∧ G5 ≤ 4) {S : Int} (hS : (U.natAbs : Int) + V.natAbs ≤ S) : -(4 * (S * S)) ≤ qA G3 G4 G5 U V ∧ qA G3 G4 G5 U V ≤ 4 * (S * S) := by
  have hU : -(U.natAbs : Int) ≤ U ∧ U ≤ U.natAbs := by omega
  have hV : -(V.natAbs : Int) ≤ V ∧ V ≤ V.natAbs := by omega
  have u0 : (0 : Int) ≤ U.natAbs := by omega
  have v0 : (0 : Int) ≤ V.natAbs := by omega
  generalize (U.natAbs : Int) = a at *
  generalize (V.natAbs : Int) = b at *
  have t1 := mulb (mulb h3 hU) hU
  have t2 := mulb (mulb h4 hU) hV
  have t3 := mulb (mulb h5 hV) hV
  have e1 : 4 * a * a = 4 * (a * a) := Int.mul_assoc _ _ _
  have e2 : 4 * a * b = 4 * (a * b) := Int.mul_assoc _ _ _
  have e3 : 4 * b * b = 4 * (b * b) := Int.mul_assoc _ _ _
  have sq : (a + b) * (a + b) ≤ S * S := Int.mul_le_mul hS hS (by omega) (by omega)
  have e4 : (a + b) * (a + b) = a * a + 2 * (a * b) + b * b := by grind
  have ab : 0 ≤ a * b := Int.mul_nonneg u0 v0
  unfold qA
  constructor <;> omega
theorem qM_s {G0 G1 G2 G3 G4 G5 X Y U V : Int} (h0 : -4 ≤ G0 ∧ G0 ≤ 4) (h1 : -4 ≤ G1 ∧ G1 ≤ 4) (h2 : -4 ≤ G2 ∧ G2 ≤ 4) (h3 : -4 ≤ G3 ∧ G3 ≤ 4) (h4 : -4 ≤ G4 ∧ G4 ≤ 4) (h5 : -4 ≤ G5 ∧ G5 ≤ 4) (hS : ((2 * X + U).natAbs : Int) + (2 * Y + V).natAbs ≤ 6) : -208 ≤ qA G3 G4 G5 U V + 2 * qB G1 G2 G3 G4 G5 X Y U V + 4 * qC G0 G1 G2 G3 G4 G5 X Y ∧ qA G3 G4 G5 U V + 2 * qB G1 G2 G3 G4 G5 X Y U V + 4 * qC G0 G1 G2 G3 G4 G5 X Y ≤ 208 := by
  have e : qA G3 G4 G5 U V + 2 * qB G1 G2 G3 G4 G5 X Y U V + 4 * qC G0 G1 G2 G3 G4 G5 X Y = 4 * G0 + 2 * (G1 * (2 * X + U)) + 2 * (G2 * (2 * Y + V)) + qA G3 G4 G5 (2 * X + U) (2 * Y + V) := by
    unfold qA qB qC; grind
  rw [e]
  have q := qA_s h3 h4 h5 hS
  generalize 2 * X + U = M at *
  generalize 2 * Y + V = N at *
  have hM : -(M.natAbs : Int) ≤ M ∧ M ≤ M.natAbs := by omega
  have hN : -(N.natAbs : Int) ≤ N ∧ N ≤ N.natAbs := by omega
  have t1 := mulb h1 hM
  have t2 := mulb h2 hN
  constructor <;> omega
theorem whl_1 {a b c pa pb pc A C : Int} (ha : -A ≤ a ∧ a ≤ A) (hb : -1824 ≤ b ∧ b ≤ 1824) {V0 : Int} (hv : -V0 ≤ a * pc - pa * c ∧ a * pc - pa * c ≤ V0) (hAV : 2 * A * V0 ≤ C) (hu : a * pb - pa * b ≠ 0) (hC : C ≤ 2999998176 * ((a * pb - pa * b).natAbs : Int)) : ((2 * a * (a * pc - pa * c) - (a * pb - pa * b) * b).natAbs : Int) ≤ 3000000000 * ((a * pb - pa * b).natAbs : Int) := by
  generalize a * pc - pa * c = v at *
  generalize a * pb - pa * b = u at *
  have t1 := mulb (mulb (show (-2 : Int) ≤ 2 ∧ (2 : Int) ≤ 2 by omega) ha) hv
  have t2 := mulb (show -(u.natAbs : Int) ≤ u ∧ u ≤ u.natAbs by omega) hb
  generalize 2 * a * v = x at *
  generalize 2 * A * V0 = y at *
  generalize u * b = z at *
  omega
theorem whl {G0 G1 G2 G3 G4 G5 H0 H1 H2 H3 H4 H5 X Y X1 Y1 : Int} (g0 : -4 ≤ G0 ∧ G0 ≤ 4) (g1 : -4 ≤ G1 ∧ G1 ≤ 4) (g2 : -4 ≤ G2 ∧ G2 ≤ 4) (g3 : -4 ≤ G3 ∧ G3 ≤ 4) (g4 : -4 ≤ G4 ∧ G4 ≤ 4) (g5 : -4 ≤ G5 ∧ G5 ≤ 4) (h0 : -4 ≤ H0 ∧ H0 ≤ 4) (h1 : -4 ≤ H1 ∧ H1 ≤ 4) (h2 : -4 ≤ H2 ∧ H2 ≤ 4) (h3 : -4 ≤ H3 ∧ H3 ≤ 4) (h4 : -4 ≤ H4 ∧ H4 ≤ 4) (h5 : -4 ≤ H5 ∧ H5 ≤ 4) (hX : -6 ≤ X ∧ X ≤ 6) (hY : -6 ≤ Y ∧ Y ≤ 6) (hX1 : -6 ≤ X1 ∧ X1 ≤ 6) (hY1 : -6 ≤ Y1 ∧ Y1 ≤ 6) {a b c pa pb pc : Int} (ea : a = qA H3 H4 H5 (X1 - X) (Y1 - Y)) (eb : b = qB H1 H2 H3 H4 H5 X Y (X1 - X) (Y1 - Y)) (ec : c = qC H0 H1 H2 H3 H4 H5 X Y) (fa : pa = qA G3 G4 G5 (X1 - X) (Y1 - Y)) (fb : pb = qB G1 G2 G3 G4 G5 X Y (X1 - X) (Y1 - Y)) (fc : pc = qC G0 G1 G2 G3 G4 G5 X Y) (ba : -1728 ≤ a ∧ a ≤ 1728) (bb : -1824 ≤ b ∧ b ≤ 1824) (bc : -484 ≤ c ∧ c ≤ 484) (ca : -1728 ≤ pa ∧ pa ≤ 1728) (cc : -484 ≤ pc ∧ pc ≤ 484) (hu : a * pb - pa * b ≠ 0) : ((2 * a * (a * pc - pa * c) - (a * pb - pa * b) * b).natAbs : Int) ≤ 3000000000 * ((a * pb - pa * b).natAbs : Int) := by
  rcases Nat.lt_or_ge (a * pb - pa * b).natAbs 2 with s | s
  · rcases (show ((X1 - X).natAbs + (Y1 - Y).natAbs : Int) < 18 ∨ 18 ≤ ((X1 - X).natAbs + (Y1 - Y).natAbs : Int) by omega) with w | w
    · have k1 := qA_s h3 h4 h5 (U := X1 - X) (V := Y1 - Y) (S := 17) (by omega)
      have k2 := qA_s g3 g4 g5 (U := X1 - X) (V := Y1 - Y) (S := 17) (by omega)
      rw [← ea] at k1
      rw [← fa] at k2
      have v1 := mulb k1 cc
      have v2 := mulb k2 bc
      refine whl_1 (A := 1156) (V0 := 1119008) (C := 2587146496) (by omega) bb ?_ (by decide) hu (by omega)
      omega
    · have k1 := qM_s h0 h1 h2 h3 h4 h5 (X := X) (Y := Y) (U := X1 - X) (V := Y1 - Y) (by omega)
      have k2 := qM_s g0 g1 g2 g3 g4 g5 (X := X) (Y := Y) (U := X1 - X) (V := Y1 - Y) (by omega)
      rw [← ea, ← eb, ← ec] at k1
      rw [← fa, ← fb, ← fc] at k2
      have v1 := mulb ba k2
      have v2 := mulb ca k1
      have e : 4 * (a * pc - pa * c) = a * (pa + 2 * pb + 4 * pc) - pa * (a + 2 * b + 4 * c) - 2 * (a * pb - pa * b) := by grind
      refine whl_1 (A := 1728) (V0 := 179713) (C := 621088128) ba bb ?_ (by decide) hu (by omega)
      omega
  · have v1 := mulb ba cc
    have v2 := mulb ca bc
    refine whl_1 (A := 1728) (V0 := 1672704) (C := 5780865024) ba bb ?_ (by decide) hu (by omega)
    omega
