/-! the sign of P at a root that is a corner -/
theorem sg_sq {x : Int} (h : x ≠ 0) (y : Int) : sgI (y * (x * x)) = sgI y := by
  rw [sgI_mul, sgI_mul]
  rcases sgI_tri x with ⟨_, e⟩ | ⟨a, _⟩ | ⟨_, e⟩
  · rw [e, show (-1 : Int32) * -1 = 1 from rfl, Int32.mul_one]
  · exact absurd a h
  · rw [e, show (1 : Int32) * 1 = 1 from rfl, Int32.mul_one]
theorem st_x {a b c pa pb pc : Int} {br : Int32} (hc : c = 0) (h : (a = 0 ∧ b ≠ 0) ∨ (a ≠ 0 ∧ (b = 0 ∨ (¬ sgI (b * b - 4 * a * c) = 0 ∧ sgI b = br)))) : sarI a b c br pa pb pc = sgI pc := by
  subst hc
  unfold sarI
  rcases h with ⟨h1, h2⟩ | ⟨h1, h2⟩
  · rw [if_pos (sgI_z h1), show pa * 0 * 0 - pb * b * 0 + pc * b * b = pc * (b * b) from by grind, sg_sq h2]
  · have na : ¬ sgI a = 0 := by rcases sgI_tri a with ⟨_, e⟩ | ⟨x, _⟩ | ⟨_, e⟩; (rw [e]; decide); exact absurd x h1; (rw [e]; decide)
    rw [if_neg na]
    have a2 : 0 < a * a := by
      rcases Int.lt_or_gt_of_ne h1 with q | q
      · exact Int.mul_pos_of_neg_of_neg q q
      · exact Int.mul_pos q q
    have e1 : (if sgI (b * b - 4 * a * 0) = 0 then 0 else br * sgI (a * pb - pa * b)) = sgI ((a * pb - pa * b) * b) := by
      rcases h2 with h2 | ⟨h2, h3⟩
      · subst h2
        rw [if_pos (by rw [show (0 : Int) * 0 - 4 * a * 0 = 0 from by grind]; rfl), Int.mul_zero]; rfl
      · rw [if_neg h2, sgI_mul, h3, Int32.mul_comm]
    rw [e1, cmb_x (c := 4 * (a * a)) (show 0 < 4 * (a * a) by omega) (by grind)]
    rw [show 2 * a * (a * pc - pa * 0) - (a * pb - pa * b) * b + (a * pb - pa * b) * b = (2 * pc) * (a * a) from by grind, sg_sq h1]
    rw [show (2 : Int) * pc = pc + pc from by omega]
    rcases sgI_tri pc with ⟨x, e⟩ | ⟨x, e⟩ | ⟨x, e⟩ <;> rw [e]
    · exact sgI_n (by omega)
    · exact sgI_z (by omega)
    · exact sgI_p (by omega)
theorem en_x {a b c pa pb pc : Int} {br : Int32} (hc : a + b + c = 0) (h : (a = 0 ∧ b ≠ 0) ∨ (a ≠ 0 ∧ (2 * a + b = 0 ∨ (¬ sgI (b * b - 4 * a * c) = 0 ∧ sgI (2 * a + b) = br)))) : sarI a b c br pa pb pc = sgI (pa + pb + pc) := by
  have hc2 : c = -a - b := by omega
  subst hc2
  unfold sarI
  rcases h with ⟨h1, h2⟩ | ⟨h1, h2⟩
  · rw [if_pos (sgI_z h1)]
    subst h1
    rw [show pa * (-0 - b) * (-0 - b) - pb * b * (-0 - b) + pc * b * b = (pa + pb + pc) * (b * b) from by grind, sg_sq h2]
  · have na : ¬ sgI a = 0 := by rcases sgI_tri a with ⟨_, e⟩ | ⟨x, _⟩ | ⟨_, e⟩; (rw [e]; decide); exact absurd x h1; (rw [e]; decide)
    rw [if_neg na]
    have a2 : 0 < a * a := by
      rcases Int.lt_or_gt_of_ne h1 with q | q
      · exact Int.mul_pos_of_neg_of_neg q q
      · exact Int.mul_pos q q
    have e1 : (if sgI (b * b - 4 * a * (-a - b)) = 0 then 0 else br * sgI (a * pb - pa * b)) = sgI ((a * pb - pa * b) * (2 * a + b)) := by
      rcases h2 with h2 | ⟨h2, h3⟩
      · have hb : b = -(2 * a) := by omega
        rw [h2, Int.mul_zero, if_pos (by subst hb; rw [show -(2 * a) * -(2 * a) - 4 * a * (-a - -(2 * a)) = 0 from by grind]; rfl)]; rfl
      · rw [if_neg h2, sgI_mul, h3, Int32.mul_comm]
    rw [e1, cmb_x (c := 4 * (a * a)) (show 0 < 4 * (a * a) by omega) (by grind)]
    rw [show 2 * a * (a * pc - pa * (-a - b)) - (a * pb - pa * b) * b + (a * pb - pa * b) * (2 * a + b) = (2 * (pa + pb + pc)) * (a * a) from by grind, sg_sq h1]
    generalize pa + pb + pc = s
    rcases sgI_tri s with ⟨x, e⟩ | ⟨x, e⟩ | ⟨x, e⟩ <;> rw [e]
    · exact sgI_n (by omega)
    · exact sgI_z (by omega)
    · exact sgI_p (by omega)
theorem sg0 {z : Int} (h : (sgI z == 0) = true) : z = 0 := by
  have h := eq_of_beq h
  rcases sgI_tri z with ⟨_, e⟩ | ⟨x, _⟩ | ⟨_, e⟩
  · rw [e] at h; exact absurd h (by decide)
  · exact x
  · rw [e] at h; exact absurd h (by decide)
theorem sgn0 {z : Int} (h : z ≠ 0) : ¬ sgI z = 0 := by
  rcases sgI_tri z with ⟨_, e⟩ | ⟨x, _⟩ | ⟨_, e⟩
  · rw [e]; decide
  · exact absurd x h
  · rw [e]; decide
theorem rc_ab {sa sb sd : Int32} (h : ¬ rcS sa sb sd = 0) : sa = 0 → ¬ sb = 0 := by
  intro h1 h2
  unfold rcS at h
  rw [if_pos h1, if_pos h2] at h
  exact h rfl
theorem rc_2 {sa sb sd : Int32} (h : rcS sa sb sd = 2) : ¬ sa = 0 := by
  intro h1
  unfold rcS at h
  rw [if_pos h1] at h
  split at h <;> exact absurd h (by decide)
theorem con_of (a b c pa pb pc : Int) (hz : ¬ (sgI a = 0 ∧ sgI b = 0 ∧ sgI c = 0)) : conB (sgI a) (sgI b) (sgI c) (sgI (b + c)) (sgI (2 * a + b)) (sgI (a + b + c)) (sgI (b * b - 4 * a * c)) (sarI a b c (-1) pa pb pc) (sarI a b c 1 pa pb pc) (sgI pc) (sgI (pa + pb + pc)) = true := by
  have r := imp_of (all7_of chkR_all (sg_in a) (sg_in b) (sg_in c) (sg_in (b + c)) (sg_in (2 * a + b)) (sg_in (a + b + c)) (sg_in (b * b - 4 * a * c))) (zzB_of (cns_of a b c) hz)
  simp only [Bool.and_eq_true] at r
  obtain ⟨⟨⟨r1, r2⟩, r3⟩, r4⟩ := r
  have nb : ∀ {z : Int}, (sgI z == 1) = true → sgI z = 1 := fun h => eq_of_beq h
  have s1 : ∀ {w : Int}, sgI w = 1 → ¬ sgI w = 0 := fun h => by rw [h]; decide
  unfold conB
  rw [Bool.and_eq_true]
  constructor
  · by_cases h0 : rcS (sgI a) (sgI b) (sgI (b * b - 4 * a * c)) = 0
    · rw [beq_iff_eq.mpr h0, Bool.true_or]
    · have h12 : ((rcS (sgI a) (sgI b) (sgI (b * b - 4 * a * c)) == 2) || (rcS (sgI a) (sgI b) (sgI (b * b - 4 * a * c)) == 1)) = true := by
        rcases rc_3 (sgI a) (sgI b) (sgI (b * b - 4 * a * c)) with h | h | h
        · exact absurd h h0
        · rw [h]; decide
        · rw [h]; decide
      rw [h12] at r1 r3
      have ab : a = 0 → b ≠ 0 := fun x y => rc_ab h0 (sgI_z x) (sgI_z y)
      rw [show (rcS (sgI a) (sgI b) (sgI (b * b - 4 * a * c)) == 0) = false from beq_eq_false_iff_ne.mpr h0, Bool.false_or, Bool.and_eq_true]
      constructor
      · by_cases h1 : stS (-1) (sgI a) (sgI b) (sgI c) (sgI (b * b - 4 * a * c)) = 0
        · rw [beq_iff_eq.mpr h1] at r1 ⊢
          simp only [Bool.not_true, Bool.false_or, Bool.and_eq_true, Bool.or_eq_true] at r1
          obtain ⟨k1, k2⟩ := r1
          rw [Bool.not_true, Bool.false_or]
          refine beq_iff_eq.mpr (st_x (sg0 k1) ?_)
          rcases k2 with (k2 | k2) | k2
          · exact Or.inl ⟨sg0 k2, ab (sg0 k2)⟩
          · by_cases ha : a = 0
            · exact Or.inl ⟨ha, ab ha⟩
            · exact Or.inr ⟨ha, Or.inl (sg0 k2.2)⟩
          · by_cases ha : a = 0
            · exact Or.inl ⟨ha, ab ha⟩
            · exact Or.inr ⟨ha, Or.inr ⟨s1 (nb k2.1), eq_of_beq k2.2⟩⟩
        · rw [show (stS (-1) (sgI a) (sgI b) (sgI c) (sgI (b * b - 4 * a * c)) == 0) = false from beq_eq_false_iff_ne.mpr h1]; rfl
      · by_cases h1 : enS (-1) (sgI a) (sgI b) (sgI (b + c)) (sgI (2 * a + b)) (sgI (a + b + c)) (sgI (b * b - 4 * a * c)) = 0
        · rw [beq_iff_eq.mpr h1] at r3 ⊢
          simp only [Bool.not_true, Bool.false_or, Bool.and_eq_true, Bool.or_eq_true] at r3
          obtain ⟨k1, k2⟩ := r3
          rw [Bool.not_true, Bool.false_or]
          refine beq_iff_eq.mpr (en_x (sg0 k1) ?_)
          rcases k2 with (k2 | k2) | k2
          · exact Or.inl ⟨sg0 k2, ab (sg0 k2)⟩
          · by_cases ha : a = 0
            · exact Or.inl ⟨ha, ab ha⟩
            · exact Or.inr ⟨ha, Or.inl (sg0 k2.2)⟩
          · by_cases ha : a = 0
            · exact Or.inl ⟨ha, ab ha⟩
            · exact Or.inr ⟨ha, Or.inr ⟨s1 (nb k2.1), eq_of_beq k2.2⟩⟩
        · rw [show (enS (-1) (sgI a) (sgI b) (sgI (b + c)) (sgI (2 * a + b)) (sgI (a + b + c)) (sgI (b * b - 4 * a * c)) == 0) = false from beq_eq_false_iff_ne.mpr h1]; rfl
  · by_cases h0 : rcS (sgI a) (sgI b) (sgI (b * b - 4 * a * c)) = 2
    · have ha : a ≠ 0 := fun x => rc_2 h0 (sgI_z x)
      rw [beq_iff_eq.mpr h0] at r2 r4 ⊢
      rw [Bool.not_true, Bool.false_or, Bool.and_eq_true]
      constructor
      · by_cases h1 : stS 1 (sgI a) (sgI b) (sgI c) (sgI (b * b - 4 * a * c)) = 0
        · rw [beq_iff_eq.mpr h1] at r2 ⊢
          simp only [Bool.not_true, Bool.false_or, Bool.and_eq_true] at r2
          obtain ⟨⟨k1, k2⟩, k3⟩ := r2
          rw [Bool.not_true, Bool.false_or]
          exact beq_iff_eq.mpr (st_x (sg0 k1) (Or.inr ⟨ha, Or.inr ⟨s1 (nb k2), eq_of_beq k3⟩⟩))
        · rw [show (stS 1 (sgI a) (sgI b) (sgI c) (sgI (b * b - 4 * a * c)) == 0) = false from beq_eq_false_iff_ne.mpr h1]; rfl
      · by_cases h1 : enS 1 (sgI a) (sgI b) (sgI (b + c)) (sgI (2 * a + b)) (sgI (a + b + c)) (sgI (b * b - 4 * a * c)) = 0
        · rw [beq_iff_eq.mpr h1] at r4 ⊢
          simp only [Bool.not_true, Bool.false_or, Bool.and_eq_true] at r4
          obtain ⟨⟨k1, k2⟩, k3⟩ := r4
          rw [Bool.not_true, Bool.false_or]
          exact beq_iff_eq.mpr (en_x (sg0 k1) (Or.inr ⟨ha, Or.inr ⟨s1 (nb k2), eq_of_beq k3⟩⟩))
        · rw [show (enS 1 (sgI a) (sgI b) (sgI (b + c)) (sgI (2 * a + b)) (sgI (a + b + c)) (sgI (b * b - 4 * a * c)) == 0) = false from beq_eq_false_iff_ne.mpr h1]; rfl
    · rw [show (rcS (sgI a) (sgI b) (sgI (b * b - 4 * a * c)) == 2) = false from beq_eq_false_iff_ne.mpr h0]; rfl
theorem sar_in (a b c : Int) {br : Int32} (hbr : br = 1 ∨ br = -1) (pa pb pc : Int) : sarI a b c br pa pb pc ∈ sgs := by
  unfold sarI cmb
  by_cases h : sgI a = 0
  · rw [if_pos h]; exact sg_in _
  · rw [if_neg h]
    generalize 2 * a * (a * pc - pa * c) - (a * pb - pa * b) * b = E
    generalize (a * pc - pa * c) * (a * pc - pa * c) - (a * pb - pa * b) * (b * pc - pb * c) = R
    generalize a * pb - pa * b = u
    generalize b * b - 4 * a * c = D
    rcases hbr with hb | hb <;> subst hb <;> rcases sgI_tri E with ⟨_, e⟩ | ⟨_, e⟩ | ⟨_, e⟩ <;> rcases sgI_tri R with ⟨_, f⟩ | ⟨_, f⟩ | ⟨_, f⟩ <;> rcases sgI_tri u with ⟨_, g⟩ | ⟨_, g⟩ | ⟨_, g⟩ <;> rcases sgI_tri D with ⟨_, k⟩ | ⟨_, k⟩ | ⟨_, k⟩ <;> rw [e, f, g, k] <;> decide
theorem res_i2 (a b c u v : Int) : (2 * a * v - u * b) * (2 * a * v - u * b) - u * u * (b * b - 4 * a * c) = 4 * a * (a * v * v - u * (v * b - c * u)) := by
  have e1 : (2 * a * v - u * b) * (2 * a * v - u * b) = 4 * (a * a * (v * v)) - 4 * (a * v * (u * b)) + u * u * (b * b) := by grind
  have e2 : u * u * (b * b - 4 * a * c) = u * u * (b * b) - 4 * (a * c * (u * u)) := by grind
  have e3 : 4 * a * (a * v * v - u * (v * b - c * u)) = 4 * (a * a * (v * v)) - 4 * (a * v * (u * b)) + 4 * (a * c * (u * u)) := by grind
  rw [e1, e2, e3]
  omega
/-- E E less u u D is 4 a a R -/
theorem res_id (a b c pa pb pc : Int) : (2 * a * (a * pc - pa * c) - (a * pb - pa * b) * b) * (2 * a * (a * pc - pa * c) - (a * pb - pa * b) * b) - (a * pb - pa * b) * (a * pb - pa * b) * (b * b - 4 * a * c) = ((a * pc - pa * c) * (a * pc - pa * c) - (a * pb - pa * b) * (b * pc - pb * c)) * (2 * a * (2 * a)) := by
  have h : a * (b * pc - pb * c) = (a * pc - pa * c) * b - c * (a * pb - pa * b) := by grind
  generalize a * pc - pa * c = v at *
  generalize a * pb - pa * b = u at *
  generalize b * pc - pb * c = w at *
  have e : (v * v - u * w) * (2 * a * (2 * a)) = 4 * a * (a * v * v - u * (a * w)) := by grind
  rw [e, h]
  exact res_i2 a b c u v
section PIECEW
variable {qa qb qc ya yb yc : Int64}
theorem cmb_0 (x y z : Int32) : cmb x 0 y = cmb x 0 z := by
  unfold cmb
  rw [Int32.mul_zero, if_neg (show ¬ (0 : Int32) < 0 by decide), if_neg (show ¬ (0 : Int32) < 0 by decide)]
/-- the model's sign at a root -/
theorem sat_eq (ha : bl qa 1728) (hb : bl qb 1824) (hc : bl qc 484) (ka : bl ya 1728) (kb : bl yb 1824) (kc : bl yc 484) (hw : qa.toInt * yb.toInt - ya.toInt * qb.toInt ≠ 0 → ((2 * qa.toInt * (qa.toInt * yc.toInt - ya.toInt * qc.toInt) - (qa.toInt * yb.toInt - ya.toInt * qb.toInt) * qb.toInt).natAbs : Int) ≤ 3000000000 * ((qa.toInt * yb.toInt - ya.toInt * qb.toInt).natAbs : Int)) {w : Int32} (h2 : w = 2 → sgI qa.toInt = 0 ∨ sgI (qb.toInt * qb.toInt - 4 * qa.toInt * qc.toInt) = 0) : f_X8_signAt qa qb qc w ya yb yc = pwS w (sgI qa.toInt) (sarI qa.toInt qb.toInt qc.toInt (-1) ya.toInt yb.toInt yc.toInt) (sarI qa.toInt qb.toInt qc.toInt 1 ya.toInt yb.toInt yc.toInt) := by
  have ha : qa.toInt = qa.toInt ∧ bl qa 1728 := ⟨rfl, ha⟩
  have hb : qb.toInt = qb.toInt ∧ bl qb 1824 := ⟨rfl, hb⟩
  have hc : qc.toInt = qc.toInt ∧ bl qc 484 := ⟨rfl, hc⟩
  have ka : ya.toInt = ya.toInt ∧ bl ya 1728 := ⟨rfl, ka⟩
  have kb : yb.toInt = yb.toInt ∧ bl yb 1824 := ⟨rfl, kb⟩
  have kc : yc.toInt = yc.toInt ∧ bl yc 484 := ⟨rfl, kc⟩
  have hu0 := subL (mulL ha kb (by decide)) (mulL ka hb (by decide)) (by decide)
  have hu : (qa * yb - ya * qb).toInt = qa.toInt * yb.toInt - ya.toInt * qb.toInt ∧ bl (qa * yb - ya * qb) 6400000 := ⟨hu0.1, bl_mono hu0.2 (by decide)⟩
  have hv := subL (mulL ha kc (by decide)) (mulL ka hc (by decide)) (by decide)
  have hE0 := subL (mulL (mulL (l2 (M := 2) (by decide)) ha (by decide)) hv (by decide)) (mulL hu0 hb (by decide)) (by decide)
  have hE : (2 * qa * (qa * yc - ya * qc) - (qa * yb - ya * qb) * qb).toInt = 2 * qa.toInt * (qa.toInt * yc.toInt - ya.toInt * qc.toInt) - (qa.toInt * yb.toInt - ya.toInt * qb.toInt) * qb.toInt ∧ bl (2 * qa * (qa * yc - ya * qc) - (qa * yb - ya * qb) * qb) 20000000000 := ⟨hE0.1, bl_mono hE0.2 (by decide)⟩
  have hd0 := subL (mulL hb hb (by decide)) (mulL (mulL (l4 (M := 4) (by decide)) ha (by decide)) hc (by decide)) (by decide)
  have hd : (qb * qb - 4 * qa * qc).toInt = qb.toInt * qb.toInt - 4 * qa.toInt * qc.toInt ∧ bl (qb * qb - 4 * qa * qc) 6800000 := ⟨hd0.1, bl_mono hd0.2 (by decide)⟩
  have h0 := addL (subL (mulL (mulL ka hc (by decide)) hc (by decide)) (mulL (mulL kb hb (by decide)) hc (by decide)) (by decide)) (mulL (mulL kc hb (by decide)) hb (by decide)) (by decide)
  have hk0 : (0 : Int64).toInt = 0 ∧ bl 0 6400000 := ⟨rfl, ⟨by decide, by decide⟩⟩
  have hnu := negL hu (by decide)
  have id := res_id qa.toInt qb.toInt qc.toInt ya.toInt yb.toInt yc.toInt
  unfold f_X8_signAt pwS sarI
  simp only [lc_0]
  generalize qa.toInt = a at *
  generalize qb.toInt = b at *
  generalize qc.toInt = c at *
  generalize ya.toInt = pa at *
  generalize yb.toInt = pb at *
  generalize yc.toInt = pc at *
  by_cases za : sgI a = 0
  · rw [if_pos za, if_pos za, if_pos za, sign_sg, h0.1]
  · have na : a ≠ 0 := fun x => za (sgI_z x)
    rw [if_neg za, if_neg za, if_neg za, if_neg za]
    have sR : sgI ((2 * a * (a * pc - pa * c) - (a * pb - pa * b) * b) * (2 * a * (a * pc - pa * c) - (a * pb - pa * b) * b) - (a * pb - pa * b) * (a * pb - pa * b) * (b * b - 4 * a * c)) = sgI ((a * pc - pa * c) * (a * pc - pa * c) - (a * pb - pa * b) * (b * pc - pb * c)) := by
      rw [id, sg_sq (show 2 * a ≠ 0 by omega)]
    generalize (a * pc - pa * c) * (a * pc - pa * c) - (a * pb - pa * b) * (b * pc - pb * c) = R at *
    generalize 2 * a * (a * pc - pa * c) - (a * pb - pa * b) * b = E at *
    generalize a * pb - pa * b = u at *
    generalize b * b - 4 * a * c = D at *
    by_cases w2 : w = 2
    · rw [if_pos w2, if_pos w2]
      have hD := (h2 w2).resolve_left za
      rw [sos_eq hE hk0 hd (fun x => absurd rfl x), if_pos hD, if_pos hD]
      exact cmb_0 _ _ _
    · rw [if_neg w2, if_neg w2]
      have plus : f_X8_signOfSum (2 * qa * (qa * yc - ya * qc) - (qa * yb - ya * qb) * qb) (qa * yb - ya * qb) (qb * qb - 4 * qa * qc) = cmb (sgI E) (if sgI D = 0 then 0 else 1 * sgI u) (sgI R) := by
        rw [sos_eq hE hu hd hw, sR, Int32.one_mul]
      have minus : f_X8_signOfSum (2 * qa * (qa * yc - ya * qc) - (qa * yb - ya * qb) * qb) (-(qa * yb - ya * qb)) (qb * qb - 4 * qa * qc) = cmb (sgI E) (if sgI D = 0 then 0 else (-1) * sgI u) (sgI R) := by
        rw [sos_eq hE hnu hd (fun x => by rw [Int.natAbs_neg]; exact hw (by omega)), show -u * -u = u * u from by grind, sR, sgI_neg]
        rw [show -(sgI u) = (-1) * sgI u from by grind]
      rcases sgI_tri a with ⟨_, e⟩ | ⟨x, _⟩ | ⟨_, e⟩
      · rw [e, if_pos (show (-1 : Int32) ≤ 0 by decide)]
        by_cases w1 : w = 1
        · rw [if_pos w1, if_pos w1, if_neg (show ¬ ((1 : Int32) = 0) by decide), if_pos rfl, minus, if_neg (show ¬ (-1 : Int32) = 1 by decide)]
        · rw [if_neg w1, if_neg w1, if_pos rfl, if_neg (show ¬ (1 : Int32) = 0 by decide), plus, if_neg (show ¬ (-1 : Int32) = 1 by decide)]
      · exact absurd x na
      · rw [e, if_neg (show ¬ (1 : Int32) ≤ 0 by decide)]
        by_cases w1 : w = 1
        · rw [if_pos w1, if_pos w1, if_pos rfl, if_neg (show ¬ (1 : Int32) = 0 by decide), plus, if_pos rfl]
        · rw [if_neg w1, if_neg w1, if_neg (show ¬ ((0 : Int32) = 1) by decide), if_pos rfl, minus, if_pos rfl]
end PIECEW
