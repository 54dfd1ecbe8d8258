/-! roots: the class's and the model's way to tell them, by signs alone -/
def frS (sl sa sb sc sq sd s1 s2 sp : Int32) (rt : Nat → Int32) : Nat × Int32 × (Nat → Int32) := (if sl = 0 then ((if sb = 0 then 0 else (if 0 ≤ (sc * sq) then 0 else (f_X8_only 0 rt 2).1)), 0, (if sb = 0 then rt else (if 0 ≤ (sc * sq) then rt else (f_X8_only 0 rt 2).2))) else (if sd = 0 then ((if ((if s1 ≤ 0 then 0 else (if 0 ≤ s2 then 0 else 1)) : Int32) = 0 then 0 else (f_X8_only 0 rt 2).1), (if s1 ≤ 0 then 0 else (if 0 ≤ s2 then 0 else 1)), (if ((if s1 ≤ 0 then 0 else (if 0 ≤ s2 then 0 else 1)) : Int32) = 0 then rt else (f_X8_only 0 rt 2).2)) else (if 0 ≤ sd then ((if ((if (sp * sa) ≤ 0 then 0 else (if 0 ≤ s2 then 0 else (if (sc * sa) < 0 then 1 else (if s1 ≤ 0 then 0 else 1)))) : Int32) = 0 then (if ((if (sc * sa) ≤ 0 then 0 else (if s1 ≤ 0 then 0 else (if (sp * sa) < 0 then 1 else (if ((if s1 ≤ 0 then 0 else (if 0 ≤ s2 then 0 else 1)) : Int32) = 0 then 0 else 1)))) : Int32) = 0 then 0 else (f_X8_only 0 rt 0).1) else (f_X8_only (if ((if (sc * sa) ≤ 0 then 0 else (if s1 ≤ 0 then 0 else (if (sp * sa) < 0 then 1 else (if ((if s1 ≤ 0 then 0 else (if 0 ≤ s2 then 0 else 1)) : Int32) = 0 then 0 else 1)))) : Int32) = 0 then 0 else (f_X8_only 0 rt 0).1) (if ((if (sc * sa) ≤ 0 then 0 else (if s1 ≤ 0 then 0 else (if (sp * sa) < 0 then 1 else (if ((if s1 ≤ 0 then 0 else (if 0 ≤ s2 then 0 else 1)) : Int32) = 0 then 0 else 1)))) : Int32) = 0 then rt else (f_X8_only 0 rt 0).2) 1).1), 0, (if ((if (sp * sa) ≤ 0 then 0 else (if 0 ≤ s2 then 0 else (if (sc * sa) < 0 then 1 else (if s1 ≤ 0 then 0 else 1)))) : Int32) = 0 then (if ((if (sc * sa) ≤ 0 then 0 else (if s1 ≤ 0 then 0 else (if (sp * sa) < 0 then 1 else (if ((if s1 ≤ 0 then 0 else (if 0 ≤ s2 then 0 else 1)) : Int32) = 0 then 0 else 1)))) : Int32) = 0 then rt else (f_X8_only 0 rt 0).2) else (f_X8_only (if ((if (sc * sa) ≤ 0 then 0 else (if s1 ≤ 0 then 0 else (if (sp * sa) < 0 then 1 else (if ((if s1 ≤ 0 then 0 else (if 0 ≤ s2 then 0 else 1)) : Int32) = 0 then 0 else 1)))) : Int32) = 0 then 0 else (f_X8_only 0 rt 0).1) (if ((if (sc * sa) ≤ 0 then 0 else (if s1 ≤ 0 then 0 else (if (sp * sa) < 0 then 1 else (if ((if s1 ≤ 0 then 0 else (if 0 ≤ s2 then 0 else 1)) : Int32) = 0 then 0 else 1)))) : Int32) = 0 then rt else (f_X8_only 0 rt 0).2) 1).2)) else (0, 0, rt))))
theorem frS_eq (aa bb dd : Int64) (rt : Nat → Int32) : f_X8_findRoots aa bb dd rt = frS (lg_cmp aa 0) (f_X8_sign aa) (lg_cmp bb 0) (f_X8_sign dd) (f_X8_sign (bb + dd)) (lg_cmp ((bb * bb) - ((4 * aa) * dd)) 0) (f_X8_sign ((-bb) * (((f_X8_sign aa)).toInt64))) (f_X8_sign (((-bb) * (((f_X8_sign aa)).toInt64)) - ((2 * aa) * (((f_X8_sign aa)).toInt64)))) (f_X8_sign ((aa + bb) + dd)) rt := rfl
theorem frS_1 (sl sa sb sc sq sd s1 s2 sp : Int32) (rt rt2 : Nat → Int32) : (frS sl sa sb sc sq sd s1 s2 sp rt).1 = (frS sl sa sb sc sq sd s1 s2 sp rt2).1 := by
  simp only [frS, f_X8_only, apply_ite Prod.fst]
def cmb (E O R : Int32) : Int32 := if E * O < 0 then (if R < 0 then O else E * R) else (if E = 0 then O else E)
def sarI (a b c : Int) (br : Int32) (oa ob oc : Int) : Int32 := if sgI a = 0 then sgI (oa * c * c - ob * b * c + oc * b * b) else cmb (sgI (2 * a * (a * oc - oa * c) - (a * ob - oa * b) * b)) (if sgI (b * b - 4 * a * c) = 0 then 0 else br * sgI (a * ob - oa * b)) (sgI ((a * oc - oa * c) * (a * oc - oa * c) - (a * ob - oa * b) * (b * oc - ob * c)))
theorem l2 {M : Int} (h : 2 ≤ M) : (2 : Int64).toInt = 2 ∧ bl 2 M := ⟨rfl, ⟨by show -M ≤ (2 : Int); omega, by show (2 : Int) ≤ M; omega⟩⟩
theorem l4 {M : Int} (h : 4 ≤ M) : (4 : Int64).toInt = 4 ∧ bl 4 M := ⟨rfl, ⟨by show -M ≤ (4 : Int); omega, by show (4 : Int) ≤ M; omega⟩⟩
theorem mulL {x y : Int64} {X Y M N : Int} (hx : x.toInt = X ∧ bl x M) (hy : y.toInt = Y ∧ bl y N) (h : M * N < 9223372036854775808) : (x * y).toInt = X * Y ∧ bl (x * y) (M * N) := by
  have := mll hx.2 hy.2 h
  rw [hx.1, hy.1] at this
  exact this
theorem addL {x y : Int64} {X Y M N : Int} (hx : x.toInt = X ∧ bl x M) (hy : y.toInt = Y ∧ bl y N) (h : M + N < 9223372036854775808) : (x + y).toInt = X + Y ∧ bl (x + y) (M + N) := by
  have := adl hx.2 hy.2 h
  rw [hx.1, hy.1] at this
  exact this
theorem subL {x y : Int64} {X Y M N : Int} (hx : x.toInt = X ∧ bl x M) (hy : y.toInt = Y ∧ bl y N) (h : M + N < 9223372036854775808) : (x - y).toInt = X - Y ∧ bl (x - y) (M + N) := by
  have := sbl hx.2 hy.2 h
  rw [hx.1, hy.1] at this
  exact this
theorem negL {x : Int64} {X M : Int} (hx : x.toInt = X ∧ bl x M) (h : M < 9223372036854775808) : (-x).toInt = -X ∧ bl (-x) M := by
  have := ngl hx.2 h
  rw [hx.1] at this
  exact this
theorem sar_eq {qa qb qc ya yb yc : Int64} (x : Int32) (ha : bl qa 50000) (hb : bl qb 50000) (hc : bl qc 50000) (ka : bl ya 2000) (kb : bl yb 2000) (kc : bl yc 2000) : f_X4_signAtRoot qa qb qc x ya yb yc = sarI qa.toInt qb.toInt qc.toInt (f_X4_branch x) ya.toInt yb.toInt yc.toInt := by
  have ha : qa.toInt = qa.toInt ∧ bl qa 50000 := ⟨rfl, ha⟩
  have hb : qb.toInt = qb.toInt ∧ bl qb 50000 := ⟨rfl, hb⟩
  have hc : qc.toInt = qc.toInt ∧ bl qc 50000 := ⟨rfl, hc⟩
  have ka : ya.toInt = ya.toInt ∧ bl ya 2000 := ⟨rfl, ka⟩
  have kb : yb.toInt = yb.toInt ∧ bl yb 2000 := ⟨rfl, kb⟩
  have kc : yc.toInt = yc.toInt ∧ bl yc 2000 := ⟨rfl, kc⟩
  have hu := subL (mulL ha kb (by decide)) (mulL ka hb (by decide)) (by decide)
  have hv := subL (mulL ha kc (by decide)) (mulL ka hc (by decide)) (by decide)
  have hw := subL (mulL hb kc (by decide)) (mulL kb hc (by decide)) (by decide)
  have hE := subL (mulL (mulL (l2 (M := 2) (by decide)) ha (by decide)) hv (by decide)) (mulL hu hb (by decide)) (by decide)
  have hR := subL (mulL hv hv (by decide)) (mulL hu hw (by decide)) (by decide)
  have hd := subL (mulL hb hb (by decide)) (mulL (mulL (l4 (M := 4) (by decide)) ha (by decide)) hc (by decide)) (by decide)
  have h0 := addL (subL (mulL (mulL ka hc (by decide)) hc (by decide)) (mulL (mulL kb hb (by decide)) hc (by decide)) (by decide)) (mulL (mulL kc hb (by decide)) hb (by decide)) (by decide)
  unfold f_X4_signAtRoot f_X4_discriminant sarI cmb
  simp only [signum_sg, lc_0, hu.1, hE.1, hR.1, hd.1, h0.1]
theorem st_eq {qa qb qc : Int64} (x : Int32) (ha : bl qa 50000) (hb : bl qb 50000) (hc : bl qc 50000) : f_X4_sideOfStart qa qb qc x = if sgI qa.toInt = 0 then -(sgI qb.toInt * sgI qc.toInt) else cmb (-(sgI qa.toInt * sgI qb.toInt)) (if sgI (qb.toInt * qb.toInt - 4 * qa.toInt * qc.toInt) = 0 then 0 else f_X4_branch x * sgI qa.toInt) (sgI qa.toInt * sgI qc.toInt) := by
  unfold f_X4_sideOfStart
  rw [sar_eq x ha hb hc ⟨by decide, by decide⟩ ⟨by decide, by decide⟩ ⟨by decide, by decide⟩]
  rw [show (0 : Int64).toInt = 0 from rfl, show (1 : Int64).toInt = 1 from rfl]
  generalize qa.toInt = a
  generalize qb.toInt = b
  generalize qc.toInt = c
  unfold sarI
  rw [show (0 : Int) * c * c - 1 * b * c + 0 * b * b = -(b * c) from by grind, show 2 * a * (a * 0 - 0 * c) - (a * 1 - 0 * b) * b = -(a * b) from by grind, show a * 1 - 0 * b = a from by grind, show (a * 0 - 0 * c) * (a * 0 - 0 * c) - a * (b * 0 - 1 * c) = a * c from by grind, sgI_neg, sgI_neg, sgI_mul, sgI_mul, sgI_mul]
theorem en_eq {qa qb qc : Int64} (x : Int32) (ha : bl qa 50000) (hb : bl qb 50000) (hc : bl qc 50000) : f_X4_sideOfEnd qa qb qc x = if sgI qa.toInt = 0 then -(sgI qb.toInt * sgI (qb.toInt + qc.toInt)) else cmb (-(sgI qa.toInt * sgI (2 * qa.toInt + qb.toInt))) (if sgI (qb.toInt * qb.toInt - 4 * qa.toInt * qc.toInt) = 0 then 0 else f_X4_branch x * sgI qa.toInt) (sgI qa.toInt * sgI (qa.toInt + qb.toInt + qc.toInt)) := by
  unfold f_X4_sideOfEnd
  rw [sar_eq x ha hb hc ⟨by decide, by decide⟩ ⟨by decide, by decide⟩ ⟨by decide, by decide⟩]
  rw [show (0 : Int64).toInt = 0 from rfl, show (1 : Int64).toInt = 1 from rfl, show (-1 : Int64).toInt = -1 from rfl]
  generalize qa.toInt = a
  generalize qb.toInt = b
  generalize qc.toInt = c
  unfold sarI
  rw [show (0 : Int) * c * c - 1 * b * c + (-1) * b * b = -(b * (b + c)) from by grind, show 2 * a * (a * (-1) - 0 * c) - (a * 1 - 0 * b) * b = -(a * (2 * a + b)) from by grind, show a * 1 - 0 * b = a from by grind, show (a * (-1) - 0 * c) * (a * (-1) - 0 * c) - a * (b * (-1) - 1 * c) = a * (a + b + c) from by grind, sgI_neg, sgI_neg, sgI_mul, sgI_mul, sgI_mul]
/-- the signs of a, b, c, of b + c, of 2 a + b, of a + b + c and of the discriminant, as they can be -/
def sgs : List Int32 := [-1, 0, 1]
theorem sg_in (z : Int) : sgI z ∈ sgs := by
  rcases sgI_tri z with ⟨_, e⟩ | ⟨_, e⟩ | ⟨_, e⟩ <;> rw [e] <;> decide
abbrev cns (sa sb sc sq se sp sd : Int32) : Prop := (sa = 0 → sq = sp ∧ (sc = 0 → sp = sb) ∧ (sb = sc → sp = sb) ∧ (sb = 0 → sp = sc)) ∧ (¬ sa = 0 → (sd = 1 → 0 ≤ sa * sc → ¬ sb = 0) ∧ (sd = 1 → 0 ≤ sa * sp → ¬ se = 0) ∧ (sd = 0 → (sc = 0 ↔ sb = 0)) ∧ (sd = 0 → (sp = 0 ↔ se = 0)) ∧ (sd = -1 → sa * sc = 1 ∧ sa * sp = 1) ∧ (sd = 0 → 0 ≤ sa * sc ∧ 0 ≤ sa * sp) ∧ (0 ≤ sa * sb → sa * se = 1) ∧ (0 ≤ sa * sb → 0 ≤ sa * sc → sa * sp = 1) ∧ (sa * sc ≤ 0 → 0 ≤ sa * sp → sa * se = 1))
theorem cns_aux (a b c B C P F D : Int) (k1 : F = D + 4 * P) (k2 : B = D + 4 * C) (k3 : sgI B = sgI b * sgI b) (k4 : sgI F = sgI (2 * a + b) * sgI (2 * a + b)) (k5 : sgI C = sgI a * sgI c) (k6 : sgI P = sgI a * sgI (a + b + c)) : cns (sgI a) (sgI b) (sgI c) (sgI (b + c)) (sgI (2 * a + b)) (sgI (a + b + c)) (sgI D) := by
  rcases sgI_tri a with ⟨a1, ea⟩ | ⟨a1, ea⟩ | ⟨a1, ea⟩ <;> rcases sgI_tri b with ⟨b1, eb⟩ | ⟨b1, eb⟩ | ⟨b1, eb⟩ <;> rcases sgI_tri c with ⟨c1, ec⟩ | ⟨c1, ec⟩ | ⟨c1, ec⟩ <;> rcases sgI_tri (b + c) with ⟨q1, eq⟩ | ⟨q1, eq⟩ | ⟨q1, eq⟩ <;> first | (exfalso; omega) | skip
  all_goals rcases sgI_tri (2 * a + b) with ⟨e1, ee⟩ | ⟨e1, ee⟩ | ⟨e1, ee⟩ <;> rcases sgI_tri (a + b + c) with ⟨p1, ep⟩ | ⟨p1, ep⟩ | ⟨p1, ep⟩ <;> first | (exfalso; omega) | skip
  all_goals
    rw [ea, ec] at k5
    rw [ea, ep] at k6
    rw [eb] at k3
    rw [ee] at k4
    rw [ea, eb, ec, eq, ee, ep]
    clear ea eb ec eq ee ep
    rcases sgI_tri B with ⟨B1, eB⟩ | ⟨B1, eB⟩ | ⟨B1, eB⟩ <;> rw [eB] at k3 <;> first | exact absurd k3 (by decide) | skip
    rcases sgI_tri F with ⟨F1, eF⟩ | ⟨F1, eF⟩ | ⟨F1, eF⟩ <;> rw [eF] at k4 <;> first | exact absurd k4 (by decide) | skip
    rcases sgI_tri C with ⟨C1, eC⟩ | ⟨C1, eC⟩ | ⟨C1, eC⟩ <;> rw [eC] at k5 <;> first | exact absurd k5 (by decide) | skip
    rcases sgI_tri P with ⟨P1, eP⟩ | ⟨P1, eP⟩ | ⟨P1, eP⟩ <;> rw [eP] at k6 <;> first | exact absurd k6 (by decide) | skip
    rcases sgI_tri D with ⟨D1, eD⟩ | ⟨D1, eD⟩ | ⟨D1, eD⟩ <;> first | (exfalso; omega) | (rw [eD]; decide)
theorem cns_of (a b c : Int) : cns (sgI a) (sgI b) (sgI c) (sgI (b + c)) (sgI (2 * a + b)) (sgI (a + b + c)) (sgI (b * b - 4 * a * c)) :=
  cns_aux a b c (b * b) (a * c) (a * (a + b + c)) ((2 * a + b) * (2 * a + b)) (b * b - 4 * a * c) (by grind) (by grind) (sgI_mul _ _) (sgI_mul _ _) (sgI_mul _ _) (sgI_mul _ _)
