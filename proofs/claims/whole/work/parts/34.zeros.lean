def onP (st en : Int32) : Int32 := if st < 0 then 0 else (if 0 < en then 0 else 1)
theorem onP_eq (qa qb qc : Int64) (x : Int32) : f_X4_isOnPiece qa qb qc x = onP (f_X4_sideOfStart qa qb qc x) (f_X4_sideOfEnd qa qb qc x) := rfl
def inc1 (o z : Int32) : Int32 := if o = 0 then z else z + 1
theorem zp_0 {qa qb qc : Int64} (hz : f_X4_isZero qa qb qc = 0) (h : f_X4_rootCount qa qb qc = 0) : f_X4_zerosOnPiece qa qb qc = 0 := by
  unfold f_X4_zerosOnPiece
  rw [if_pos hz, h]
  simp only [l_X4_zerosOnPiece_18, h]
  rfl
theorem zp_1 {qa qb qc : Int64} (hz : f_X4_isZero qa qb qc = 0) (h : f_X4_rootCount qa qb qc = 1) : f_X4_zerosOnPiece qa qb qc = inc1 (f_X4_isOnPiece qa qb qc 0) 0 := by
  unfold f_X4_zerosOnPiece
  rw [if_pos hz, h, show (1 : Int32).toNatClampNeg + 1 = 2 from rfl]
  unfold l_X4_zerosOnPiece_18
  rw [h, if_neg (by decide)]
  unfold l_X4_zerosOnPiece_18
  rw [h, if_pos (by decide)]
  rfl
theorem zp_2 {qa qb qc : Int64} (hz : f_X4_isZero qa qb qc = 0) (h : f_X4_rootCount qa qb qc = 2) : f_X4_zerosOnPiece qa qb qc = inc1 (f_X4_isOnPiece qa qb qc 1) (inc1 (f_X4_isOnPiece qa qb qc 0) 0) := by
  unfold f_X4_zerosOnPiece
  rw [if_pos hz, h, show (2 : Int32).toNatClampNeg + 1 = 3 from rfl]
  unfold l_X4_zerosOnPiece_18
  rw [h, if_neg (by decide)]
  unfold l_X4_zerosOnPiece_18
  rw [h, if_neg (by decide)]
  unfold l_X4_zerosOnPiece_18
  rw [h, if_pos (by decide)]
  rfl
def rcS (sa sb sd : Int32) : Int32 := if sa = 0 then (if sb = 0 then 0 else 1) else (if sd = 0 then 1 else (if sd ≤ 0 then 0 else 2))
theorem disc_eq {qa qb qc : Int64} (ha : bl qa 50000) (hb : bl qb 50000) (hc : bl qc 50000) : ((qb * qb) - ((4 * qa) * qc)).toInt = qb.toInt * qb.toInt - 4 * qa.toInt * qc.toInt := (subL (mulL ⟨rfl, hb⟩ ⟨rfl, hb⟩ (by decide)) (mulL (mulL (l4 (M := 4) (by decide)) ⟨rfl, ha⟩ (by decide)) ⟨rfl, hc⟩ (by decide)) (by decide)).1
theorem rc_eq {qa qb qc : Int64} (ha : bl qa 50000) (hb : bl qb 50000) (hc : bl qc 50000) : f_X4_rootCount qa qb qc = rcS (sgI qa.toInt) (sgI qb.toInt) (sgI (qb.toInt * qb.toInt - 4 * qa.toInt * qc.toInt)) := by
  unfold f_X4_rootCount f_X4_discriminant rcS
  simp only [lc_0, disc_eq ha hb hc]
def stS (br sa sb sc sd : Int32) : Int32 := if sa = 0 then -(sb * sc) else cmb (-(sa * sb)) (if sd = 0 then 0 else br * sa) (sa * sc)
def enS (br sa sb sq se sp sd : Int32) : Int32 := if sa = 0 then -(sb * sq) else cmb (-(sa * se)) (if sd = 0 then 0 else br * sa) (sa * sp)
def onS (br sa sb sc sq se sp sd : Int32) : Int32 := onP (stS br sa sb sc sd) (enS br sa sb sq se sp sd)
def zC (sa sb sc sq se sp sd : Int32) : Int32 := if rcS sa sb sd = 0 then 0 else if rcS sa sb sd = 1 then inc1 (onS (-1) sa sb sc sq se sp sd) 0 else inc1 (onS 1 sa sb sc sq se sp sd) (inc1 (onS (-1) sa sb sc sq se sp sd) 0)
def zM (sa sb sc sq se sp sd : Int32) : Int32 := nI (frS sa sa sb sc sq sd (-(sb * sa)) (-(se * sa)) sp (fun _ => 0)).1 + (if sc = 0 then 1 else 0) + (if sp = 0 then 1 else 0)
def all7 (f : Int32 → Int32 → Int32 → Int32 → Int32 → Int32 → Int32 → Bool) : Bool := sgs.all fun a => sgs.all fun b => sgs.all fun c => sgs.all fun q => sgs.all fun e => sgs.all fun p => sgs.all fun d => f a b c q e p d
theorem all7_of {f : Int32 → Int32 → Int32 → Int32 → Int32 → Int32 → Int32 → Bool} (h : all7 f = true) {a b c q e p d : Int32} (ha : a ∈ sgs) (hb : b ∈ sgs) (hc : c ∈ sgs) (hq : q ∈ sgs) (he : e ∈ sgs) (hp : p ∈ sgs) (hd : d ∈ sgs) : f a b c q e p d = true :=
  List.all_eq_true.mp (List.all_eq_true.mp (List.all_eq_true.mp (List.all_eq_true.mp (List.all_eq_true.mp (List.all_eq_true.mp (List.all_eq_true.mp h a ha) b hb) c hc) q hq) e he) p hp) d hd
def cnsB (sa sb sc sq se sp sd : Int32) : Bool := decide (cns sa sb sc sq se sp sd)
def zzB (sa sb sc sq se sp sd : Int32) : Bool := cnsB sa sb sc sq se sp sd && !(sa == 0 && sb == 0 && sc == 0)
def chkZ (sa sb sc sq se sp sd : Int32) : Bool := !(zzB sa sb sc sq se sp sd) || zC sa sb sc sq se sp sd == zM sa sb sc sq se sp sd
set_option maxRecDepth 100000 in
set_option maxHeartbeats 4000000 in
theorem zCMb : all7 chkZ = true := by decide +kernel
theorem imp_of {x y : Bool} (h : (!x || y) = true) (hx : x = true) : y = true := by subst hx; exact h
theorem zzB_of {sa sb sc sq se sp sd : Int32} (h : cns sa sb sc sq se sp sd) (hz : ¬ (sa = 0 ∧ sb = 0 ∧ sc = 0)) : zzB sa sb sc sq se sp sd = true := by
  unfold zzB cnsB
  rw [decide_eq_true h, Bool.true_and]
  by_cases h1 : sa = 0
  · by_cases h2 : sb = 0
    · have h3 : ¬ sc = 0 := fun q => hz ⟨h1, h2, q⟩
      rw [show (sc == 0) = false from beq_eq_false_iff_ne.mpr h3, Bool.and_false]; rfl
    · rw [show (sb == 0) = false from beq_eq_false_iff_ne.mpr h2, Bool.and_false]; rfl
  · rw [show (sa == 0) = false from beq_eq_false_iff_ne.mpr h1]; rfl
theorem zCM (sa sb sc sq se sp sd : Int32) (ha : sa ∈ sgs) (hb : sb ∈ sgs) (hc : sc ∈ sgs) (hq : sq ∈ sgs) (he : se ∈ sgs) (hp : sp ∈ sgs) (hd : sd ∈ sgs) (h : cns sa sb sc sq se sp sd) (hz : ¬ (sa = 0 ∧ sb = 0 ∧ sc = 0)) : zC sa sb sc sq se sp sd = zM sa sb sc sq se sp sd :=
  eq_of_beq (imp_of (all7_of zCMb ha hb hc hq he hp hd) (zzB_of h hz))
theorem on_eq {qa qb qc : Int64} (x : Int32) (ha : bl qa 50000) (hb : bl qb 50000) (hc : bl qc 50000) : f_X4_isOnPiece qa qb qc x = onS (f_X4_branch x) (sgI qa.toInt) (sgI qb.toInt) (sgI qc.toInt) (sgI (qb.toInt + qc.toInt)) (sgI (2 * qa.toInt + qb.toInt)) (sgI (qa.toInt + qb.toInt + qc.toInt)) (sgI (qb.toInt * qb.toInt - 4 * qa.toInt * qc.toInt)) := by
  rw [onP_eq, st_eq x ha hb hc, en_eq x ha hb hc]
  rfl
theorem zC_eq {qa qb qc : Int64} (ha : bl qa 50000) (hb : bl qb 50000) (hc : bl qc 50000) (hz : f_X4_isZero qa qb qc = 0) : f_X4_zerosOnPiece qa qb qc = zC (sgI qa.toInt) (sgI qb.toInt) (sgI qc.toInt) (sgI (qb.toInt + qc.toInt)) (sgI (2 * qa.toInt + qb.toInt)) (sgI (qa.toInt + qb.toInt + qc.toInt)) (sgI (qb.toInt * qb.toInt - 4 * qa.toInt * qc.toInt)) := by
  have hr := rc_eq ha hb hc
  unfold zC
  rw [← hr]
  have h3 : f_X4_rootCount qa qb qc = 0 ∨ f_X4_rootCount qa qb qc = 1 ∨ f_X4_rootCount qa qb qc = 2 := by
    rw [hr]
    unfold rcS
    (repeat' split) <;> decide
  rcases h3 with h | h | h
  · rw [if_pos h, zp_0 hz h]
  · rw [if_neg (by rw [h]; decide), if_pos h, zp_1 hz h, on_eq 0 ha hb hc]
    rfl
  · rw [if_neg (by rw [h]; decide), if_neg (by rw [h]; decide), zp_2 hz h, on_eq 0 ha hb hc, on_eq 1 ha hb hc]
    rfl
theorem sg_int (z : Int) : (sgI z).toInt64.toInt = (sgI z).toInt ∧ bl (sgI z).toInt64 1 := by
  rcases sgI_tri z with ⟨_, e⟩ | ⟨_, e⟩ | ⟨_, e⟩ <;> rw [e] <;> exact ⟨by decide, by decide, by decide⟩
theorem sg_sg (z : Int) : sgI (sgI z).toInt = sgI z := by
  rcases sgI_tri z with ⟨_, e⟩ | ⟨_, e⟩ | ⟨_, e⟩ <;> rw [e] <;> rfl
/-- the model's roots, by signs -/
theorem frM_eq {qa qb qc : Int64} (ha : bl qa 50000) (hb : bl qb 50000) (hc : bl qc 50000) (rt : Nat → Int32) : f_X8_findRoots qa qb qc rt = frS (sgI qa.toInt) (sgI qa.toInt) (sgI qb.toInt) (sgI qc.toInt) (sgI (qb.toInt + qc.toInt)) (sgI (qb.toInt * qb.toInt - 4 * qa.toInt * qc.toInt)) (-(sgI qb.toInt * sgI qa.toInt)) (-(sgI (2 * qa.toInt + qb.toInt) * sgI qa.toInt)) (sgI (qa.toInt + qb.toInt + qc.toInt)) rt := by
  have ha : qa.toInt = qa.toInt ∧ bl qa 50000 := ⟨rfl, ha⟩
  have hb : qb.toInt = qb.toInt ∧ bl qb 50000 := ⟨rfl, hb⟩
  have hc : qc.toInt = qc.toInt ∧ bl qc 50000 := ⟨rfl, hc⟩
  have hs := sg_int qa.toInt
  have h1 := mulL (negL hb (by decide)) hs (by decide)
  have h2 := subL h1 (mulL (mulL (l2 (M := 2) (by decide)) ha (by decide)) hs (by decide)) (by decide)
  have h3 := addL (addL ha hb (by decide)) hc (by decide)
  have h4 := addL hb hc (by decide)
  rw [frS_eq]
  simp only [sign_sg, lc_0, disc_eq ha.2 hb.2 hc.2]
  rw [h1.1, h2.1, h3.1, h4.1]
  have e1 : sgI (-qb.toInt * (sgI qa.toInt).toInt) = -(sgI qb.toInt * sgI qa.toInt) := by
    rw [show -qb.toInt * (sgI qa.toInt).toInt = -(qb.toInt * (sgI qa.toInt).toInt) from by grind, sgI_neg, sgI_mul, sg_sg]
  have e2 : sgI (-qb.toInt * (sgI qa.toInt).toInt - 2 * qa.toInt * (sgI qa.toInt).toInt) = -(sgI (2 * qa.toInt + qb.toInt) * sgI qa.toInt) := by
    rw [show -qb.toInt * (sgI qa.toInt).toInt - 2 * qa.toInt * (sgI qa.toInt).toInt = -((2 * qa.toInt + qb.toInt) * (sgI qa.toInt).toInt) from by grind, sgI_neg, sgI_mul, sg_sg]
  rw [e1, e2]
theorem zz_of {qa qb qc : Int64} (hz : f_X4_isZero qa qb qc = 0) : ¬ (sgI qa.toInt = 0 ∧ sgI qb.toInt = 0 ∧ sgI qc.toInt = 0) := by
  intro h
  unfold f_X4_isZero at hz
  simp only [lc_0, if_pos h.1, if_pos h.2.1, if_pos h.2.2] at hz
  exact absurd hz (by decide)
/-- both count the same zeros -/
theorem zeros_eq {qa qb qc : Int64} (ha : bl qa 50000) (hb : bl qb 50000) (hc : bl qc 50000) (hz : f_X4_isZero qa qb qc = 0) (rt : Nat → Int32) : f_X4_zerosOnPiece qa qb qc = (nI ((f_X8_findRoots qa qb qc rt).1) + (if (lg_cmp qc 0) = 0 then 1 else 0)) + (if (lg_cmp ((qa + qb) + qc) 0) = 0 then 1 else 0) := by
  have h3 : ((qa + qb) + qc).toInt = qa.toInt + qb.toInt + qc.toInt := (addL (addL (⟨rfl, ha⟩ : qa.toInt = qa.toInt ∧ bl qa 50000) ⟨rfl, hb⟩ (by decide)) ⟨rfl, hc⟩ (by decide)).1
  rw [zC_eq ha hb hc hz, zCM _ _ _ _ _ _ _ (sg_in _) (sg_in _) (sg_in _) (sg_in _) (sg_in _) (sg_in _) (sg_in _) (cns_of _ _ _) (zz_of hz), frM_eq ha hb hc rt, frS_1 _ _ _ _ _ _ _ _ _ rt (fun _ => 0), lc_0, lc_0, h3]
  rfl
