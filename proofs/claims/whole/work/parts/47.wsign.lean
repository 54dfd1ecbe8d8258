/-! how speeds wind along a piece, by signs -/
def m1 (o x k : Int32) : Int32 := if o = 0 then k else (if x = 0 then 1 else k)
def mzS (sa sb sc sq se sp sd xm xp : Int32) : Int32 := if rcS sa sb sd = 0 then 0 else if rcS sa sb sd = 1 then m1 (onS (-1) sa sb sc sq se sp sd) xm 0 else m1 (onS (-1) sa sb sc sq se sp sd) xm (m1 (onS 1 sa sb sc sq se sp sd) xp 0)
def afS (br sa sb sd : Int32) : Int32 := if sa = 0 then sb else (if sd = 0 then sa else br)
def beS (br sa sb sd : Int32) : Int32 := if ((if sa = 0 then 0 else (if sd = 0 then 1 else 0)) : Int32) = 0 then (-(afS br sa sb sd)) else (afS br sa sb sd)
def u1 (o x st en be af z : Int32) : Int32 := if o = 0 then z else (if 0 < x then (if 0 ≤ en then (if st ≤ 0 then z else (if 0 ≤ be then z else (z + 1))) else (if 0 ≤ af then (if st ≤ 0 then z else (if 0 ≤ be then z else (z + 1))) else ((if st ≤ 0 then z else (if 0 ≤ be then z else (z + 1))) - 1))) else z)
def u1S (br sa sb sc sq se sp sd x z : Int32) : Int32 := u1 (onS br sa sb sc sq se sp sd) x (stS br sa sb sc sd) (enS br sa sb sq se sp sd) (beS br sa sb sd) (afS br sa sb sd) z
def ucS (sa sb sc sq se sp sd xm xp : Int32) : Int32 := if rcS sa sb sd = 0 then 0 else if rcS sa sb sd = 1 then u1S (-1) sa sb sc sq se sp sd xm 0 else u1S 1 sa sb sc sq se sp sd xp (u1S (-1) sa sb sc sq se sp sd xm 0)
theorem rc_3 (sa sb sd : Int32) : rcS sa sb sd = 0 ∨ rcS sa sb sd = 1 ∨ rcS sa sb sd = 2 := by
  unfold rcS
  (repeat' split) <;> decide
section ROOTS
variable {qa qb qc ya yb yc : Int64}
theorem mz_eq (ha : bl qa 50000) (hb : bl qb 50000) (hc : bl qc 50000) (hz : f_X4_isZero qa qb qc = 0) : f_X4_meetsZeroOf qa qb qc ya yb yc = mzS (sgI qa.toInt) (sgI qb.toInt) (sgI qc.toInt) (sgI (qb.toInt + qc.toInt)) (sgI (2 * qa.toInt + qb.toInt)) (sgI (qa.toInt + qb.toInt + qc.toInt)) (sgI (qb.toInt * qb.toInt - 4 * qa.toInt * qc.toInt)) (f_X4_signAtRoot qa qb qc 0 ya yb yc) (f_X4_signAtRoot qa qb qc 1 ya yb yc) := by
  have hr := rc_eq ha hb hc
  unfold f_X4_meetsZeroOf mzS
  rw [if_pos hz, ← hr, ← show f_X4_isOnPiece qa qb qc 0 = onS (-1) (sgI qa.toInt) (sgI qb.toInt) (sgI qc.toInt) (sgI (qb.toInt + qc.toInt)) (sgI (2 * qa.toInt + qb.toInt)) (sgI (qa.toInt + qb.toInt + qc.toInt)) (sgI (qb.toInt * qb.toInt - 4 * qa.toInt * qc.toInt)) from on_eq 0 ha hb hc, ← show f_X4_isOnPiece qa qb qc 1 = onS 1 (sgI qa.toInt) (sgI qb.toInt) (sgI qc.toInt) (sgI (qb.toInt + qc.toInt)) (sgI (2 * qa.toInt + qb.toInt)) (sgI (qa.toInt + qb.toInt + qc.toInt)) (sgI (qb.toInt * qb.toInt - 4 * qa.toInt * qc.toInt)) from on_eq 1 ha hb hc]
  rcases rc_3 (sgI qa.toInt) (sgI qb.toInt) (sgI (qb.toInt * qb.toInt - 4 * qa.toInt * qc.toInt)) with h | h | h <;> rw [← hr] at h
  · rw [if_pos h, h, show (0 : Int32).toNatClampNeg + 1 = 1 from rfl]
    unfold l_X4_meetsZeroOf_27
    rw [h, if_pos (by decide)]
  · rw [if_neg (by rw [h]; decide), if_pos h, h, show (1 : Int32).toNatClampNeg + 1 = 2 from rfl]
    unfold l_X4_meetsZeroOf_27
    rw [h, if_neg (show ¬ nI (Int32.toNatClampNeg 1) ≤ nI 0 by decide)]
    unfold l_X4_meetsZeroOf_27
    rw [h, if_pos (show nI (Int32.toNatClampNeg 1) ≤ nI (0 + 1) by decide)]
    rfl
  · rw [if_neg (by rw [h]; decide), if_neg (by rw [h]; decide), h, show (2 : Int32).toNatClampNeg + 1 = 3 from rfl]
    unfold l_X4_meetsZeroOf_27
    rw [h, if_neg (show ¬ nI (Int32.toNatClampNeg 2) ≤ nI 0 by decide)]
    unfold l_X4_meetsZeroOf_27
    rw [h, if_neg (show ¬ nI (Int32.toNatClampNeg 2) ≤ nI (0 + 1) by decide)]
    unfold l_X4_meetsZeroOf_27
    rw [h, if_pos (show nI (Int32.toNatClampNeg 2) ≤ nI (0 + 1 + 1) by decide)]
    rfl
theorem u1_eq (ha : bl qa 50000) (hb : bl qb 50000) (hc : bl qc 50000) (x z s : Int32) : (if (f_X4_isOnPiece qa qb qc x) = 0 then z else (if 0 < s then (if 0 ≤ (f_X4_sideOfEnd qa qb qc x) then (if (f_X4_sideOfStart qa qb qc x) ≤ 0 then z else (if 0 ≤ (f_X4_signBeforeRoot qa qb qc x) then z else (z + 1))) else (if 0 ≤ (f_X4_signAfterRoot qa qb qc x) then (if (f_X4_sideOfStart qa qb qc x) ≤ 0 then z else (if 0 ≤ (f_X4_signBeforeRoot qa qb qc x) then z else (z + 1))) else ((if (f_X4_sideOfStart qa qb qc x) ≤ 0 then z else (if 0 ≤ (f_X4_signBeforeRoot qa qb qc x) then z else (z + 1))) - 1))) else z)) = u1S (f_X4_branch x) (sgI qa.toInt) (sgI qb.toInt) (sgI qc.toInt) (sgI (qb.toInt + qc.toInt)) (sgI (2 * qa.toInt + qb.toInt)) (sgI (qa.toInt + qb.toInt + qc.toInt)) (sgI (qb.toInt * qb.toInt - 4 * qa.toInt * qc.toInt)) s z := by
  have e1 : f_X4_signAfterRoot qa qb qc x = afS (f_X4_branch x) (sgI qa.toInt) (sgI qb.toInt) (sgI (qb.toInt * qb.toInt - 4 * qa.toInt * qc.toInt)) := by
    unfold f_X4_signAfterRoot f_X4_discriminant afS
    simp only [lc_0, signum_sg, disc_eq ha hb hc]
  have e2 : f_X4_signBeforeRoot qa qb qc x = beS (f_X4_branch x) (sgI qa.toInt) (sgI qb.toInt) (sgI (qb.toInt * qb.toInt - 4 * qa.toInt * qc.toInt)) := by
    unfold f_X4_signBeforeRoot beS
    rw [e1]
    unfold f_X4_discriminant
    simp only [lc_0, disc_eq ha hb hc]
  rw [e1, e2, on_eq x ha hb hc, st_eq x ha hb hc, en_eq x ha hb hc]
  rfl
theorem uc_eq (ha : bl qa 50000) (hb : bl qb 50000) (hc : bl qc 50000) : f_X4_upwardCrossings qa qb qc ya yb yc = ucS (sgI qa.toInt) (sgI qb.toInt) (sgI qc.toInt) (sgI (qb.toInt + qc.toInt)) (sgI (2 * qa.toInt + qb.toInt)) (sgI (qa.toInt + qb.toInt + qc.toInt)) (sgI (qb.toInt * qb.toInt - 4 * qa.toInt * qc.toInt)) (f_X4_signAtRoot qa qb qc 0 ya yb yc) (f_X4_signAtRoot qa qb qc 1 ya yb yc) := by
  have hr := rc_eq ha hb hc
  unfold f_X4_upwardCrossings ucS
  rw [← hr]
  rcases rc_3 (sgI qa.toInt) (sgI qb.toInt) (sgI (qb.toInt * qb.toInt - 4 * qa.toInt * qc.toInt)) with h | h | h <;> rw [← hr] at h
  · rw [if_pos h, h, show (0 : Int32).toNatClampNeg + 1 = 1 from rfl]
    unfold l_X4_upwardCrossings_10
    rw [h, if_pos (by decide)]
  · rw [if_neg (by rw [h]; decide), if_pos h, h, show (1 : Int32).toNatClampNeg + 1 = 2 from rfl]
    unfold l_X4_upwardCrossings_10
    rw [h, if_neg (by decide)]
    unfold l_X4_upwardCrossings_10
    rw [h, if_pos (by decide), u1_eq ha hb hc]
    rfl
  · rw [if_neg (by rw [h]; decide), if_neg (by rw [h]; decide), h, show (2 : Int32).toNatClampNeg + 1 = 3 from rfl]
    unfold l_X4_upwardCrossings_10
    rw [h, if_neg (by decide)]
    unfold l_X4_upwardCrossings_10
    rw [h, if_neg (by decide)]
    unfold l_X4_upwardCrossings_10
    rw [h, if_pos (by decide), u1_eq ha hb hc, u1_eq ha hb hc]
    rfl
end ROOTS
/-! the model's notes of a piece, by signs -/
def frL (sa sc s1 s2 sp : Int32) : Int32 := if (sc * sa) ≤ 0 then 0 else (if s1 ≤ 0 then 0 else (if (sp * sa) < 0 then 1 else (if ((if s1 ≤ 0 then 0 else (if 0 ≤ s2 then 0 else 1)) : Int32) = 0 then 0 else 1)))
def frG (sa sc s1 s2 sp : Int32) : Int32 := if (sp * sa) ≤ 0 then 0 else (if 0 ≤ s2 then 0 else (if (sc * sa) < 0 then 1 else (if s1 ≤ 0 then 0 else 1)))
def frT (s1 s2 : Int32) : Int32 := if s1 ≤ 0 then 0 else (if 0 ≤ s2 then 0 else 1)
def frB (L G : Int32) (rt : Nat → Int32) : Nat × Int32 × (Nat → Int32) := ((if G = 0 then (if L = 0 then 0 else (f_X8_only 0 rt 0).1) else (f_X8_only (if L = 0 then 0 else (f_X8_only 0 rt 0).1) (if L = 0 then rt else (f_X8_only 0 rt 0).2) 1).1), 0, (if G = 0 then (if L = 0 then rt else (f_X8_only 0 rt 0).2) else (f_X8_only (if L = 0 then 0 else (f_X8_only 0 rt 0).1) (if L = 0 then rt else (f_X8_only 0 rt 0).2) 1).2))
theorem frS_alt (sl sa sb sc sq sd s1 s2 sp : Int32) (rt : Nat → Int32) : frS sl sa sb sc sq sd s1 s2 sp rt = (if sl = 0 then ((if sb = 0 then 0 else (if 0 ≤ (sc * sq) then 0 else (f_X8_only 0 rt 2).1)), 0, (if sb = 0 then rt else (if 0 ≤ (sc * sq) then rt else (f_X8_only 0 rt 2).2))) else (if sd = 0 then ((if frT s1 s2 = 0 then 0 else (f_X8_only 0 rt 2).1), frT s1 s2, (if frT s1 s2 = 0 then rt else (f_X8_only 0 rt 2).2)) else (if 0 ≤ sd then frB (frL sa sc s1 s2 sp) (frG sa sc s1 s2 sp) rt else (0, 0, rt)))) := rfl
theorem frS_ind (sl sa sb sc sq sd s1 s2 sp : Int32) (rt rt2 : Nat → Int32) : (frS sl sa sb sc sq sd s1 s2 sp rt).1 = (frS sl sa sb sc sq sd s1 s2 sp rt2).1 ∧ (frS sl sa sb sc sq sd s1 s2 sp rt).2.1 = (frS sl sa sb sc sq sd s1 s2 sp rt2).2.1 ∧ (∀ r, r < (frS sl sa sb sc sq sd s1 s2 sp rt).1 → (frS sl sa sb sc sq sd s1 s2 sp rt).2.2 r = (frS sl sa sb sc sq sd s1 s2 sp rt2).2.2 r) ∧ (frS sl sa sb sc sq sd s1 s2 sp rt).1 ≤ 2 := by
  have hB : ∀ L G : Int32, (frB L G rt).1 = (frB L G rt2).1 ∧ (frB L G rt).2.1 = (frB L G rt2).2.1 ∧ (∀ r, r < (frB L G rt).1 → (frB L G rt).2.2 r = (frB L G rt2).2.2 r) ∧ (frB L G rt).1 ≤ 2 := by
    intro L G
    unfold frB f_X8_only
    by_cases hL : L = 0 <;> by_cases hG : G = 0 <;> simp only [hL, hG, if_true, if_false]
    · exact ⟨trivial, trivial, fun r hr => absurd hr (Nat.not_lt_zero _), by decide⟩
    · refine ⟨trivial, trivial, fun r hr => ?_, by decide⟩
      have : r = 0 := by omega
      subst this; rfl
    · refine ⟨trivial, trivial, fun r hr => ?_, by decide⟩
      have : r = 0 := by omega
      subst this; rfl
    · refine ⟨trivial, trivial, fun r hr => ?_, by decide⟩
      have : r = 0 ∨ r = 1 := by omega
      rcases this with e | e <;> subst e <;> rfl
  have h1 : (∀ r, r < 1 → upd rt 0 2 r = upd rt2 0 2 r) := by
    intro r hr
    have : r = 0 := by omega
    subst this; rfl
  rw [frS_alt, frS_alt]
  by_cases a : sl = 0
  · rw [if_pos a, if_pos a]
    by_cases b : sb = 0
    · simp only [if_pos b]; exact ⟨trivial, trivial, fun r hr => absurd hr (Nat.not_lt_zero _), by decide⟩
    · simp only [if_neg b]
      by_cases c : 0 ≤ sc * sq
      · simp only [if_pos c]; exact ⟨trivial, trivial, fun r hr => absurd hr (Nat.not_lt_zero _), by decide⟩
      · simp only [if_neg c]; exact ⟨rfl, trivial, fun r hr => h1 r hr, show (0 : Nat) + 1 ≤ 2 by decide⟩
  · rw [if_neg a, if_neg a]
    by_cases b : sd = 0
    · rw [if_pos b, if_pos b]
      by_cases c : frT s1 s2 = 0
      · simp only [if_pos c]; exact ⟨trivial, trivial, fun r hr => absurd hr (Nat.not_lt_zero _), by decide⟩
      · simp only [if_neg c]; exact ⟨rfl, trivial, fun r hr => h1 r hr, show (0 : Nat) + 1 ≤ 2 by decide⟩
    · rw [if_neg b, if_neg b]
      by_cases c : 0 ≤ sd
      · rw [if_pos c, if_pos c]; exact hB _ _
      · rw [if_neg c, if_neg c]; exact ⟨rfl, rfl, fun r hr => absurd hr (Nat.not_lt_zero _), by show (0 : Nat) ≤ 2; decide⟩
def frZ (sa sb sc sq se sp sd : Int32) : Nat × Int32 × (Nat → Int32) := frS sa sa sb sc sq sd (-(sb * sa)) (-(se * sa)) sp (fun _ => 0)
def pwS (w sa xm xp : Int32) : Int32 := if sa = 0 then xm else if w = 2 then xm else if w = 1 then (if sa = 1 then xp else xm) else (if sa = 1 then xm else xp)
def s0S (sa sb sc : Int32) : Int32 := if sc = 0 then (if sb = 0 then sa else sb) else sc
def nsS (db s : Int32) : Int32 := if db = 0 then -s else s
def goS (m : Nat) (db s p q : Int32) : List (Int32 × Int32) := if m = 0 then [] else if m = 1 then [(0, p), (nsS db s, 0)] else [(0, p), (nsS db s, 0), (0, q), (nsS db (nsS db s), 0)]
def pr0 (sa sb sc sq se sp sd xm xp : Int32) : Int32 := pwS ((frZ sa sb sc sq se sp sd).2.2 0) sa xm xp
def pr1 (sa sb sc sq se sp sd xm xp : Int32) : Int32 := pwS ((frZ sa sb sc sq se sp sd).2.2 1) sa xm xp
def tlS (sa sb sc sq se sp sd xm xp : Int32) : List (Int32 × Int32) := (if sc = 0 then [(s0S sa sb sc, 0)] else []) ++ goS (frZ sa sb sc sq se sp sd).1 (frZ sa sb sc sq se sp sd).2.1 (s0S sa sb sc) (pr0 sa sb sc sq se sp sd xm xp) (pr1 sa sb sc sq se sp sd xm xp)
def hdS (sc p0 : Int32) : Int32 × Int32 := if sc = 0 then (0, p0) else (sc, 0)
def okS (sa sb sc sq se sp sd xm xp p0 p1 : Int32) : Bool := !(sc == 0 && p0 == 0) && !(sp == 0 && p1 == 0) && ((frZ sa sb sc sq se sp sd).1 == 0 || (!(pr0 sa sb sc sq se sp sd xm xp == 0) && ((frZ sa sb sc sq se sp sd).1 == 1 || !(pr1 sa sb sc sq se sp sd xm xp == 0))))
/-! neighbours among the notes -/
def adj (e f : Int32 × Int32) : Int32 := (if e.1 = -1 ∧ f.1 = 0 ∧ 0 < f.2 then 1 else 0) - (if e.1 = 0 ∧ 0 < e.2 ∧ f.1 = -1 then 1 else 0)
abbrev gd (e f : Int32 × Int32) : Prop := (¬ e.1 = 0 → ¬ f.1 = 0 → e.1 = f.1) ∧ (e.1 = 0 → f.1 = 0 → (0 < e.2 ↔ 0 < f.2)) ∧ (f.1 = 0 ∨ f.1 = 1 ∨ f.1 = -1)
def lsum : Int32 × Int32 → List (Int32 × Int32) → Int32
  | _, [] => 0
  | e, f :: l => adj e f + lsum f l
def llast : Int32 × Int32 → List (Int32 × Int32) → Int32 × Int32
  | e, [] => e
  | _, f :: l => llast f l
def lgd : Int32 × Int32 → List (Int32 × Int32) → Bool
  | _, [] => true
  | e, f :: l => decide (gd e f) && lgd f l
def crr (e : Int32 × Int32) (y x : Int32) : Int32 := if e.1 = -1 ∧ y = 0 ∧ 0 < x then 1 else 0
def conB (sa sb sc sq se sp sd xm xp p0 p1 : Int32) : Bool := (rcS sa sb sd == 0 || ((!(stS (-1) sa sb sc sd == 0) || xm == p0) && (!(enS (-1) sa sb sq se sp sd == 0) || xm == p1))) && (!(rcS sa sb sd == 2) || ((!(stS 1 sa sb sc sd == 0) || xp == p0) && (!(enS 1 sa sb sq se sp sd == 0) || xp == p1)))
def lstB (e : Int32 × Int32) (sp : Int32) : Bool := !(e.1 == 0) && (sp == 0 || (e.1 == sp && e.2 == 0))
def resW (sa sb sc sq se sp sd xm xp p0 p1 : Int32) : Bool := (mzS sa sb sc sq se sp sd xm xp == (if okS sa sb sc sq se sp sd xm xp p0 p1 then 0 else 1)) && (!(okS sa sb sc sq se sp sd xm xp p0 p1) || (ucS sa sb sc sq se sp sd xm xp == lsum (hdS sc p0) (tlS sa sb sc sq se sp sd xm xp) + crr (llast (hdS sc p0) (tlS sa sb sc sq se sp sd xm xp)) sp p1 && lgd (hdS sc p0) (tlS sa sb sc sq se sp sd xm xp) && lstB (llast (hdS sc p0) (tlS sa sb sc sq se sp sd xm xp)) sp))
def chkW (sa sb sc sq se sp sd : Int32) : Bool := !(zzB sa sb sc sq se sp sd) || (sgs.all fun xm => sgs.all fun xp => sgs.all fun p0 => sgs.all fun p1 => !(conB sa sb sc sq se sp sd xm xp p0 p1) || resW sa sb sc sq se sp sd xm xp p0 p1)
set_option maxRecDepth 100000 in
set_option maxHeartbeats 40000000 in
theorem chkW_all : all7 chkW = true := by decide +kernel
theorem resW_of {sa sb sc sq se sp sd xm xp p0 p1 : Int32} (ha : sa ∈ sgs) (hb : sb ∈ sgs) (hc : sc ∈ sgs) (hq : sq ∈ sgs) (he : se ∈ sgs) (hp : sp ∈ sgs) (hd : sd ∈ sgs) (h : cns sa sb sc sq se sp sd) (hz : ¬ (sa = 0 ∧ sb = 0 ∧ sc = 0)) (h1 : xm ∈ sgs) (h2 : xp ∈ sgs) (h3 : p0 ∈ sgs) (h4 : p1 ∈ sgs) (hcon : conB sa sb sc sq se sp sd xm xp p0 p1 = true) : resW sa sb sc sq se sp sd xm xp p0 p1 = true := by
  have a := imp_of (all7_of chkW_all ha hb hc hq he hp hd) (zzB_of h hz)
  exact imp_of (List.all_eq_true.mp (List.all_eq_true.mp (List.all_eq_true.mp (List.all_eq_true.mp a xm h1) xp h2) p0 h3) p1 h4) hcon
/-- a double root is told by 2, and by 2 alone where a is not 0 -/
def chkD (sa sb sc sq se sp sd : Int32) : Bool := !(zzB sa sb sc sq se sp sd) || ((frZ sa sb sc sq se sp sd).1 == 0 || ((!((frZ sa sb sc sq se sp sd).2.2 0 == 2) || sa == 0 || sd == 0) && ((frZ sa sb sc sq se sp sd).1 == 1 || (!((frZ sa sb sc sq se sp sd).2.2 1 == 2) || sa == 0 || sd == 0))))
set_option maxRecDepth 100000 in
set_option maxHeartbeats 40000000 in
theorem chkD_all : all7 chkD = true := by decide +kernel
/-- where a start, or an end, is a root -/
def chkR (sa sb sc sq se sp sd : Int32) : Bool := !(zzB sa sb sc sq se sp sd) || ((!(rcS sa sb sd == 2 || rcS sa sb sd == 1) || !(stS (-1) sa sb sc sd == 0) || (sc == 0 && (sa == 0 || (sd == 0 && sb == 0) || (sd == 1 && sb == -1)))) && (!(rcS sa sb sd == 2) || !(stS 1 sa sb sc sd == 0) || (sc == 0 && sd == 1 && sb == 1)) && (!(rcS sa sb sd == 2 || rcS sa sb sd == 1) || !(enS (-1) sa sb sq se sp sd == 0) || (sp == 0 && (sa == 0 || (sd == 0 && se == 0) || (sd == 1 && se == -1)))) && (!(rcS sa sb sd == 2) || !(enS 1 sa sb sq se sp sd == 0) || (sp == 0 && sd == 1 && se == 1)))
set_option maxRecDepth 100000 in
set_option maxHeartbeats 40000000 in
theorem chkR_all : all7 chkR = true := by decide +kernel
