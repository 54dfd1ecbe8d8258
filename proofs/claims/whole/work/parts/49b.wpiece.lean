/-- a polynomial that is 0 nowhere on the piece has one sign at both ends -/
def chkE (sa sb sc sq se sp sd : Int32) : Bool := !(zzB sa sb sc sq se sp sd) || (!(zM sa sb sc sq se sp sd == 0) || sc == sp)
set_option maxRecDepth 100000 in
set_option maxHeartbeats 40000000 in
theorem chkE_all : all7 chkE = true := by decide +kernel
section PSUM
variable {qa qb qc ya yb yc : Int64} {nw : Nat → Int32} {aa bb dd : Int64} {ro : Nat} {rt : Nat → Int32} {db : Int32} {sg an : Nat → Int32} {mn k n : Nat}
theorem hn_eq (ka : bl ya 50000) (kb : bl yb 50000) (kc : bl yc 50000) (rt : Nat → Int32) : ((f_X8_hasNought ya yb yc rt).1 = 0 ∧ f_X4_zerosOnPiece ya yb yc ≤ 0 ∧ sgI yc.toInt = (sgI (ya.toInt + yb.toInt + yc.toInt))) ∨ (¬ (f_X8_hasNought ya yb yc rt).1 = 0 ∧ ¬ f_X4_zerosOnPiece ya yb yc ≤ 0) := by
  have e4 : ((ya + yb) + yc).toInt = ya.toInt + yb.toInt + yc.toInt := (addL (addL (⟨rfl, ka⟩ : ya.toInt = ya.toInt ∧ bl ya 50000) ⟨rfl, kb⟩ (by decide)) ⟨rfl, kc⟩ (by decide)).1
  by_cases hz : f_X4_isZero ya yb yc = 0
  · have hf := (frS_ind (sgI ya.toInt) (sgI ya.toInt) (sgI yb.toInt) (sgI yc.toInt) (sgI (yb.toInt + yc.toInt)) (sgI (yb.toInt * yb.toInt - 4 * ya.toInt * yc.toInt)) (-(sgI yb.toInt * sgI ya.toInt)) (-(sgI (2 * ya.toInt + yb.toInt) * sgI ya.toInt)) (sgI (ya.toInt + yb.toInt + yc.toInt)) rt rt).2.2.2
    rw [← frM_eq ka kb kc] at hf
    have zq := zeros_eq ka kb kc hz rt
    have zc := (zC_eq ka kb kc hz).trans (zCM _ _ _ _ _ _ _ (sg_in _) (sg_in _) (sg_in _) (sg_in _) (sg_in _) (sg_in _) (sg_in _) (cns_of _ _ _) (zz_of hz))
    have ce := imp_of (all7_of chkE_all (sg_in ya.toInt) (sg_in yb.toInt) (sg_in yc.toInt) (sg_in (yb.toInt + yc.toInt)) (sg_in (2 * ya.toInt + yb.toInt)) (sg_in (ya.toInt + yb.toInt + yc.toInt)) (sg_in (yb.toInt * yb.toInt - 4 * ya.toInt * yc.toInt))) (zzB_of (cns_of ya.toInt yb.toInt yc.toInt) (zz_of hz))
    rw [← zc, zq] at ce
    rw [zq]
    unfold f_X8_hasNought
    simp only [lc_0, e4] at ce ⊢
    generalize (f_X8_findRoots ya yb yc rt).1 = N at *
    have h3 : N = 0 ∨ N = 1 ∨ N = 2 := by omega
    rcases h3 with e | e | e <;> subst e <;> by_cases c : sgI yc.toInt = 0 <;> by_cases d : sgI (ya.toInt + yb.toInt + yc.toInt) = 0 <;> simp only [c, d, if_true, if_false] at ce ⊢ <;> first | (right; exact ⟨by decide, by decide⟩) | (left; exact ⟨by decide, by decide, by first | exact eq_of_beq (imp_of (x := true) ce rfl) | simpa using ce⟩)
  · right
    have h1 : f_X4_isZero ya yb yc = 1 := (b_X4_isZero ya yb yc).resolve_left hz
    unfold f_X4_isZero at h1
    simp only [lc_0] at h1
    have c : sgI yc.toInt = 0 := by
      by_cases a : sgI ya.toInt = 0
      · rw [if_pos a] at h1
        by_cases b : sgI yb.toInt = 0
        · rw [if_pos b] at h1
          by_cases c : sgI yc.toInt = 0
          · exact c
          · rw [if_neg c] at h1; exact absurd h1 (by decide)
        · rw [if_neg b] at h1; exact absurd h1 (by decide)
      · rw [if_neg a] at h1; exact absurd h1 (by decide)
    constructor
    · unfold f_X8_hasNought
      simp only [lc_0, c, if_true]
      split <;> decide
    · unfold f_X4_zerosOnPiece
      rw [if_neg hz]; decide
theorem tlS_len (sa sb sc sq se sp sd xm xp : Int32) : (tlS sa sb sc sq se sp sd xm xp).length ≤ 5 := by
  unfold tlS
  rw [List.length_append]
  have a : (if sc = 0 then [(s0S sa sb sc, (0 : Int32))] else []).length ≤ 1 := by
    split
    · exact Nat.le_refl 1
    · exact Nat.zero_le 1
  have b : ∀ (m : Nat) (d s p q : Int32), (goS m d s p q).length ≤ 4 := by
    intro m d s p q
    unfold goS
    split
    · exact Nat.zero_le _
    · split
      · show 2 ≤ 4; decide
      · exact Nat.le_refl _
  have := b (frZ sa sb sc sq se sp sd).1 (frZ sa sb sc sq se sp sd).2.1 (s0S sa sb sc) (pr0 sa sb sc sq se sp sd xm xp) (pr1 sa sb sc sq se sp sd xm xp)
  omega
/-- what both say of a piece -/
theorem ps (hP : f_X8_follow nw k 0 n = (ya, yb, yc)) (hQ : f_X8_follow nw k 1 n = (qa, qb, qc)) (ha : bl qa 1728) (hb : bl qb 1824) (hc : bl qc 484) (ka : bl ya 1728) (kb : bl yb 1824) (kc : bl yc 484) (hw : qa.toInt * yb.toInt - ya.toInt * qb.toInt ≠ 0 → ((2 * qa.toInt * (qa.toInt * yc.toInt - ya.toInt * qc.toInt) - (qa.toInt * yb.toInt - ya.toInt * qb.toInt) * qb.toInt).natAbs : Int) ≤ 3000000000 * ((qa.toInt * yb.toInt - ya.toInt * qb.toInt).natAbs : Int)) : (¬ f_X4_meetsZeroOf qa qb qc ya yb yc = 0 ∧ (f_X8_notePiece nw aa bb dd ro rt db sg an mn k n).1 = 0) ∨ (f_X4_meetsZeroOf qa qb qc ya yb yc = 0 ∧ (f_X8_notePiece nw aa bb dd ro rt db sg an mn k n).1 = 1 ∧ ∃ tl, n3 (f_X8_notePiece nw aa bb dd ro rt db sg an mn k n) = wr sg an mn ((hdS (sgI qc.toInt) (sgI yc.toInt)) :: tl) ∧ f_X4_upwardCrossings qa qb qc ya yb yc = lsum (hdS (sgI qc.toInt) (sgI yc.toInt)) tl + crr (llast (hdS (sgI qc.toInt) (sgI yc.toInt)) tl) (sgI (qa.toInt + qb.toInt + qc.toInt)) (sgI (ya.toInt + yb.toInt + yc.toInt)) ∧ lgd (hdS (sgI qc.toInt) (sgI yc.toInt)) tl = true ∧ (¬ (sgI (qa.toInt + qb.toInt + qc.toInt)) = 0 → llast (hdS (sgI qc.toInt) (sgI yc.toInt)) tl = ((sgI (qa.toInt + qb.toInt + qc.toInt)), 0)) ∧ ((llast (hdS (sgI qc.toInt) (sgI yc.toInt)) tl).1 = 0 → (0 < (llast (hdS (sgI qc.toInt) (sgI yc.toInt)) tl).2 ↔ 0 < (sgI (ya.toInt + yb.toInt + yc.toInt)))) ∧ tl.length ≤ 5) := by
  have ha5 : bl qa 50000 := bl_mono ha (by decide)
  have hb5 : bl qb 50000 := bl_mono hb (by decide)
  have hc5 : bl qc 50000 := bl_mono hc (by decide)
  have ka2 : bl ya 2000 := bl_mono ka (by decide)
  have kb2 : bl yb 2000 := bl_mono kb (by decide)
  have kc2 : bl yc 2000 := bl_mono kc (by decide)
  have xm : f_X4_signAtRoot qa qb qc 0 ya yb yc = (sarI qa.toInt qb.toInt qc.toInt (-1) ya.toInt yb.toInt yc.toInt) := sar_eq 0 ha5 hb5 hc5 ka2 kb2 kc2
  have xp : f_X4_signAtRoot qa qb qc 1 ya yb yc = (sarI qa.toInt qb.toInt qc.toInt 1 ya.toInt yb.toInt yc.toInt) := sar_eq 1 ha5 hb5 hc5 ka2 kb2 kc2
  have uc := uc_eq (ya := ya) (yb := yb) (yc := yc) ha5 hb5 hc5
  rw [xm, xp] at uc
  by_cases hz : f_X4_isZero qa qb qc = 0
  · have mz := mz_eq (ya := ya) (yb := yb) (yc := yc) ha5 hb5 hc5 hz
    rw [xm, xp] at mz
    have r := resW_of (sg_in qa.toInt) (sg_in qb.toInt) (sg_in qc.toInt) (sg_in (qb.toInt + qc.toInt)) (sg_in (2 * qa.toInt + qb.toInt)) (sg_in (qa.toInt + qb.toInt + qc.toInt)) (sg_in (qb.toInt * qb.toInt - 4 * qa.toInt * qc.toInt)) (cns_of _ _ _) (zz_of hz) (sar_in qa.toInt qb.toInt qc.toInt (Or.inr rfl) ya.toInt yb.toInt yc.toInt) (sar_in qa.toInt qb.toInt qc.toInt (Or.inl rfl) ya.toInt yb.toInt yc.toInt) (sg_in yc.toInt) (sg_in (ya.toInt + yb.toInt + yc.toInt)) (con_of _ _ _ _ _ _ (zz_of hz))
    have np := np_zz (aa := aa) (bb := bb) (dd := dd) (ro := ro) (rt := rt) (db := db) (sg := sg) (an := an) (mn := mn) hP hQ ha hb hc ka kb kc hw hz
    unfold resW at r
    rw [← mz, ← uc] at r
    cases ho : okS (sgI qa.toInt) (sgI qb.toInt) (sgI qc.toInt) (sgI (qb.toInt + qc.toInt)) (sgI (2 * qa.toInt + qb.toInt)) (sgI (qa.toInt + qb.toInt + qc.toInt)) (sgI (qb.toInt * qb.toInt - 4 * qa.toInt * qc.toInt)) (sarI qa.toInt qb.toInt qc.toInt (-1) ya.toInt yb.toInt yc.toInt) (sarI qa.toInt qb.toInt qc.toInt 1 ya.toInt yb.toInt yc.toInt) (sgI yc.toInt) (sgI (ya.toInt + yb.toInt + yc.toInt)) with
    | false =>
      left
      rw [ho] at r
      rw [Bool.and_eq_true] at r
      have := eq_of_beq r.1
      exact ⟨by rw [this]; decide, np.2 ho⟩
    | true =>
      right
      rw [ho] at r
      simp only [Bool.and_eq_true, Bool.not_true, Bool.false_or] at r
      obtain ⟨r1, ⟨r2, r3⟩, r4⟩ := r
      have n1 := np.1 ho
      refine ⟨eq_of_beq r1, n1.1, _, n1.2, eq_of_beq r2, r3, ?_, ?_, tlS_len _ _ _ _ _ _ _ _ _⟩
      · intro q
        unfold lstB at r4
        simp only [Bool.and_eq_true, Bool.or_eq_true, beq_iff_eq] at r4
        rcases r4.2 with w | w
        · exact absurd w q
        · exact Prod.ext w.1 w.2
      · intro q
        unfold lstB at r4
        rw [q] at r4
        exact absurd r4 (by simp)
  · have h1 : f_X4_isZero qa qb qc = 1 := (b_X4_isZero qa qb qc).resolve_left hz
    unfold f_X4_isZero at h1
    simp only [lc_0] at h1
    have hsa : sgI qa.toInt = 0 := by
      by_cases a : sgI qa.toInt = 0
      · exact a
      · rw [if_neg a] at h1; exact absurd h1 (by decide)
    rw [if_pos hsa] at h1
    have hsb : sgI qb.toInt = 0 := by
      by_cases a : sgI qb.toInt = 0
      · exact a
      · rw [if_neg a] at h1; exact absurd h1 (by decide)
    rw [if_pos hsb] at h1
    have hsc : sgI qc.toInt = 0 := by
      by_cases a : sgI qc.toInt = 0
      · exact a
      · rw [if_neg a] at h1; exact absurd h1 (by decide)
    have i0 : ∀ {z : Int}, sgI z = 0 → z = 0 := fun h => sg0 (beq_iff_eq.mpr h)
    have hsp : (sgI (qa.toInt + qb.toInt + qc.toInt)) = 0 := by rw [i0 hsa, i0 hsb, i0 hsc]; rfl
    have hrc : rcS (sgI qa.toInt) (sgI qb.toInt) (sgI (qb.toInt * qb.toInt - 4 * qa.toInt * qc.toInt)) = 0 := by
      unfold rcS; rw [if_pos hsa, if_pos hsb]
    have hu : f_X4_upwardCrossings qa qb qc ya yb yc = 0 := by
      rw [uc]; unfold ucS; rw [if_pos hrc]
    have hh : (hdS (sgI qc.toInt) (sgI yc.toInt)) = (0, (sgI yc.toInt)) := by unfold hdS; rw [if_pos hsc]
    have hm : f_X4_meetsZeroOf qa qb qc ya yb yc = if f_X4_zerosOnPiece ya yb yc ≤ 0 then 0 else 1 := by
      unfold f_X4_meetsZeroOf; rw [if_neg hz]
    have hr1 : (f_X8_notePiece nw aa bb dd ro rt db sg an mn k n).1 = (if (f_X8_hasNought ya yb yc rt).1 = 0 then 1 else 0) := by
      unfold f_X8_notePiece
      simp only [hP, hQ, lc_0]
      rw [if_pos hsa, if_pos hsb, if_pos hsc]
    have hr2 : n3 (f_X8_notePiece nw aa bb dd ro rt db sg an mn k n) = wr sg an mn [(0, (sgI yc.toInt))] := by
      unfold f_X8_notePiece
      simp only [hP, hQ, lc_0, sign_sg]
      rw [if_pos hsa, if_pos hsb, if_pos hsc]
      rfl
    rcases hn_eq (bl_mono ka (by decide)) (bl_mono kb (by decide)) (bl_mono kc (by decide)) rt with ⟨a, b, c⟩ | ⟨a, b⟩
    · right
      rw [hm, if_pos b, hr1, if_pos a]
      refine ⟨rfl, rfl, [], ?_, ?_, rfl, fun q => absurd hsp q, fun _ => ?_, by decide⟩
      · rw [hh]; exact hr2
      · rw [hu, hh]
        show (0 : Int32) = 0 + crr (0, (sgI yc.toInt)) (sgI (qa.toInt + qb.toInt + qc.toInt)) (sgI (ya.toInt + yb.toInt + yc.toInt))
        unfold crr
        rw [if_neg (fun q => absurd (show (0 : Int32) = -1 from q.1) (by decide))]; rfl
      · rw [hh]
        show 0 < sgI yc.toInt ↔ _
        rw [c]
    · left
      rw [hm, if_neg b, hr1, if_neg a]
      exact ⟨by decide, rfl⟩
end PSUM
/-! all notes together -/
def el (sg an : Nat → Int32) (i : Nat) : Int32 × Int32 := (sg i, an i)
def asm (sg an : Nat → Int32) : Nat → Int32
  | 0 => 0
  | i + 1 => asm sg an i + adj (el sg an i) (el sg an (i + 1))
theorem asm_cg {sg an sg2 an2 : Nat → Int32} : ∀ (j : Nat), (∀ i, i ≤ j → el sg2 an2 i = el sg an i) → asm sg2 an2 j = asm sg an j := by
  intro j
  induction j with
  | zero => intro _; rfl
  | succ j ih =>
    intro h
    show asm sg2 an2 j + _ = asm sg an j + _
    rw [ih (fun i hi => h i (by omega)), h j (by omega), h (j + 1) (Nat.le_refl _)]
theorem el_un {sg an : Nat → Int32} {m i : Nat} {x y : Int32} (h : i ≠ m) : el (upd sg m x) (upd an m y) i = el sg an i := by
  unfold el; rw [pk_un h, pk_un h]
theorem el_us {sg an : Nat → Int32} {m : Nat} {x y : Int32} : el (upd sg m x) (upd an m y) m = (x, y) := by
  unfold el; rw [pk_us, pk_us]
theorem wr_v : ∀ (l : List (Int32 × Int32)) (sg an : Nat → Int32) (m : Nat), 0 < m → lgd (el sg an (m - 1)) l = true → (∀ i, i + 1 < m → gd (el sg an i) (el sg an (i + 1))) → m ≤ (wr sg an m l).1 ∧ (∀ i, i < m → el (wr sg an m l).2.1 (wr sg an m l).2.2 i = el sg an i) ∧ asm (wr sg an m l).2.1 (wr sg an m l).2.2 ((wr sg an m l).1 - 1) = asm sg an (m - 1) + lsum (el sg an (m - 1)) l ∧ (∀ i, i + 1 < (wr sg an m l).1 → gd (el (wr sg an m l).2.1 (wr sg an m l).2.2 i) (el (wr sg an m l).2.1 (wr sg an m l).2.2 (i + 1))) ∧ el (wr sg an m l).2.1 (wr sg an m l).2.2 ((wr sg an m l).1 - 1) = llast (el sg an (m - 1)) l ∧ (wr sg an m l).1 = m + l.length := by
  intro l
  induction l with
  | nil =>
    intro sg an m h0 _ h2
    exact ⟨Nat.le_refl _, fun _ _ => rfl, (Int32.add_zero _).symm, h2, rfl, rfl⟩
  | cons e l ih =>
    intro sg an m h0 h1 h2
    obtain ⟨e1, e2⟩ := e
    unfold lgd at h1
    rw [Bool.and_eq_true] at h1
    have g := of_decide_eq_true h1.1
    have em : m + 1 - 1 = m := by omega
    have el1 : el (upd sg m e1) (upd an m e2) m = (e1, e2) := el_us
    have el0 : el (upd sg m e1) (upd an m e2) (m - 1) = el sg an (m - 1) := el_un (by omega)
    obtain ⟨r1, r2, r3, r4, r5, r6⟩ := ih (upd sg m e1) (upd an m e2) (m + 1) (by omega) (by rw [em, el1]; exact h1.2) (fun i hi => by
      rw [el_un (show i ≠ m by omega)]
      by_cases q : i + 1 = m
      · rw [q, el1]
        have : i = m - 1 := by omega
        rw [this]; exact g
      · rw [el_un q]; exact h2 i (by omega))
    rw [em, el1] at r3 r5
    show m ≤ (wr (upd sg m e1) (upd an m e2) (m + 1) l).1 ∧ (∀ i, i < m → el (wr (upd sg m e1) (upd an m e2) (m + 1) l).2.1 (wr (upd sg m e1) (upd an m e2) (m + 1) l).2.2 i = el sg an i) ∧ asm (wr (upd sg m e1) (upd an m e2) (m + 1) l).2.1 (wr (upd sg m e1) (upd an m e2) (m + 1) l).2.2 ((wr (upd sg m e1) (upd an m e2) (m + 1) l).1 - 1) = asm sg an (m - 1) + (adj (el sg an (m - 1)) (e1, e2) + lsum (e1, e2) l) ∧ (∀ i, i + 1 < (wr (upd sg m e1) (upd an m e2) (m + 1) l).1 → gd (el (wr (upd sg m e1) (upd an m e2) (m + 1) l).2.1 (wr (upd sg m e1) (upd an m e2) (m + 1) l).2.2 i) (el (wr (upd sg m e1) (upd an m e2) (m + 1) l).2.1 (wr (upd sg m e1) (upd an m e2) (m + 1) l).2.2 (i + 1))) ∧ el (wr (upd sg m e1) (upd an m e2) (m + 1) l).2.1 (wr (upd sg m e1) (upd an m e2) (m + 1) l).2.2 ((wr (upd sg m e1) (upd an m e2) (m + 1) l).1 - 1) = llast (e1, e2) l ∧ (wr (upd sg m e1) (upd an m e2) (m + 1) l).1 = m + (l.length + 1)
    refine ⟨by omega, fun i hi => ?_, ?_, r4, r5, by omega⟩
    · rw [r2 i (by omega)]; exact el_un (by omega)
    · rw [r3]
      have : asm (upd sg m e1) (upd an m e2) m = asm sg an (m - 1) + adj (el sg an (m - 1)) (e1, e2) := by
        have hm : m = (m - 1) + 1 := by omega
        generalize m - 1 = j at *
        subst hm
        show asm (upd sg (j + 1) e1) (upd an (j + 1) e2) j + adj (el (upd sg (j + 1) e1) (upd an (j + 1) e2) j) (el (upd sg (j + 1) e1) (upd an (j + 1) e2) (j + 1)) = _
        rw [asm_cg j (fun i hi => el_un (by omega)), el0, el1]
      rw [this, Int32.add_assoc]
/-- the notes of some pieces: what the class has counted so far -/
def WI (sg an : Nat → Int32) (m : Nat) (S y x : Int32) (h : Int32 × Int32) (B : Nat) : Prop := 0 < m ∧ (∀ i, i + 1 < m → gd (el sg an i) (el sg an (i + 1))) ∧ S = asm sg an (m - 1) + crr (el sg an (m - 1)) y x ∧ el sg an 0 = h ∧ (¬ y = 0 → el sg an (m - 1) = (y, 0)) ∧ ((el sg an (m - 1)).1 = 0 → (0 < (el sg an (m - 1)).2 ↔ 0 < x)) ∧ m ≤ B
