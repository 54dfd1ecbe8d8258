/-! what a piece notes -/
def wr (sg an : Nat → Int32) (m : Nat) : List (Int32 × Int32) → Nat × (Nat → Int32) × (Nat → Int32)
  | [] => (m, sg, an)
  | e :: l => wr (upd sg m e.1) (upd an m e.2) (m + 1) l
def n3 (r : Int32 × Int64 × Int64 × Int64 × Nat × Int32 × Nat × (Nat → Int32) × (Nat → Int32) × (Nat → Int32)) : Nat × (Nat → Int32) × (Nat → Int32) := (r.2.2.2.2.2.2.1, r.2.2.2.2.2.2.2.2.1, r.2.2.2.2.2.2.2.2.2)
section NOTES
variable {qa qb qc ya yb yc : Int64} {nw : Nat → Int32} {aa bb dd : Int64} {ro : Nat} {rt : Nat → Int32} {db : Int32} {sg an : Nat → Int32} {mn k n : Nat}
theorem l205 (hP : f_X8_follow nw k 0 n = (ya, yb, yc)) (hQ : f_X8_follow nw k 1 n = (qa, qb, qc)) {N : Nat} {D : Int32} {W pp : Nat → Int32} (hF1 : (f_X8_findRoots qa qb qc (f_X8_hasNought ya yb yc rt).2.2.2).1 = N) (hF2 : (f_X8_findRoots qa qb qc (f_X8_hasNought ya yb yc rt).2.2.2).2.1 = D) (hF3 : ∀ r, r < N → (f_X8_findRoots qa qb qc (f_X8_hasNought ya yb yc rt).2.2.2).2.2 r = W r) (hN : N ≤ 2) (hp : ∀ r, r < N → f_X8_signAt qa qb qc (W r) ya yb yc = pp r) (zan zsg : Nat → Int32) (z9 : Int32) (m : Nat) : ((N = 0 ∨ (¬ pp 0 = 0 ∧ (N = 1 ∨ ¬ pp 1 = 0))) → (l_X8_notePiece_205 nw aa bb dd ro rt db sg an mn k n (N + 1) 0 zan zsg z9 m).1 = 1 ∧ n3 (l_X8_notePiece_205 nw aa bb dd ro rt db sg an mn k n (N + 1) 0 zan zsg z9 m) = wr zsg zan m (goS N D z9 (pp 0) (pp 1))) ∧ (¬ (N = 0 ∨ (¬ pp 0 = 0 ∧ (N = 1 ∨ ¬ pp 1 = 0))) → (l_X8_notePiece_205 nw aa bb dd ro rt db sg an mn k n (N + 1) 0 zan zsg z9 m).1 = 0) := by
  have h3 : N = 0 ∨ N = 1 ∨ N = 2 := by omega
  rcases h3 with e | e | e <;> subst e
  · constructor
    · intro _
      unfold l_X8_notePiece_205
      simp only [hP, hQ, hF1]
      rw [if_pos (Int32.le_refl _)]
      exact ⟨rfl, rfl⟩
    · intro h; exact absurd (Or.inl rfl) h
  · have w0 := hF3 0 (by decide)
    have q0 := hp 0 (by decide)
    by_cases g0 : pp 0 = 0
    · constructor
      · rintro (h | ⟨h, _⟩)
        · exact absurd h (by decide)
        · exact absurd g0 h
      · intro _
        unfold l_X8_notePiece_205
        simp only [hP, hQ, hF1, w0, q0]
        rw [if_neg (show ¬ nI 1 ≤ nI 0 by decide), if_pos g0]
    · constructor
      · intro _
        unfold l_X8_notePiece_205
        simp only [hP, hQ, hF1, hF2, w0, q0]
        rw [if_neg (show ¬ nI 1 ≤ nI 0 by decide), if_neg g0]
        unfold l_X8_notePiece_205
        simp only [hP, hQ, hF1]
        rw [if_pos (show nI 1 ≤ nI (0 + 1) by decide)]
        exact ⟨rfl, rfl⟩
      · intro h; exact absurd (Or.inr ⟨g0, Or.inl rfl⟩) h
  · have w0 := hF3 0 (by decide)
    have q0 := hp 0 (by decide)
    have w1 := hF3 1 (by decide)
    have q1 := hp 1 (by decide)
    by_cases g0 : pp 0 = 0
    · constructor
      · rintro (h | ⟨h, _⟩)
        · exact absurd h (by decide)
        · exact absurd g0 h
      · intro _
        unfold l_X8_notePiece_205
        simp only [hP, hQ, hF1, w0, q0]
        rw [if_neg (show ¬ nI 2 ≤ nI 0 by decide), if_pos g0]
    · by_cases g1 : pp 1 = 0
      · constructor
        · rintro (h | ⟨_, h | h⟩)
          · exact absurd h (by decide)
          · exact absurd h (by decide)
          · exact absurd g1 h
        · intro _
          unfold l_X8_notePiece_205
          simp only [hP, hQ, hF1, hF2, w0, q0]
          rw [if_neg (show ¬ nI 2 ≤ nI 0 by decide), if_neg g0]
          unfold l_X8_notePiece_205
          simp only [hP, hQ, hF1, Nat.zero_add, w1, q1]
          rw [if_neg (show ¬ nI 2 ≤ nI 1 by decide), if_pos g1]
      · constructor
        · intro _
          unfold l_X8_notePiece_205
          simp only [hP, hQ, hF1, hF2, w0, q0]
          rw [if_neg (show ¬ nI 2 ≤ nI 0 by decide), if_neg g0]
          unfold l_X8_notePiece_205
          simp only [hP, hQ, hF1, hF2, Nat.zero_add, w1, q1]
          rw [if_neg (show ¬ nI 2 ≤ nI 1 by decide), if_neg g1]
          unfold l_X8_notePiece_205
          simp only [hP, hQ, hF1]
          rw [if_pos (show nI 2 ≤ nI (1 + 1) by decide)]
          exact ⟨rfl, rfl⟩
        · intro h; exact absurd (Or.inr ⟨g0, Or.inr g1⟩) h
theorem beq0 (x : Int32) : (x == 0) = true ↔ x = 0 := beq_iff_eq
theorem okS_iff (sa sb sc sq se sp sd xm xp p0 p1 : Int32) : okS sa sb sc sq se sp sd xm xp p0 p1 = true ↔ ¬ (sc = 0 ∧ p0 = 0) ∧ ¬ (sp = 0 ∧ p1 = 0) ∧ ((frZ sa sb sc sq se sp sd).1 = 0 ∨ (¬ pr0 sa sb sc sq se sp sd xm xp = 0 ∧ ((frZ sa sb sc sq se sp sd).1 = 1 ∨ ¬ pr1 sa sb sc sq se sp sd xm xp = 0))) := by
  unfold okS
  simp only [Bool.and_eq_true, Bool.or_eq_true, Bool.not_eq_true', beq_iff_eq, and_assoc, Bool.and_eq_false_iff, beq_eq_false_iff_ne, ne_eq]
  have nn : ∀ (p q : Prop), (¬ p ∨ ¬ q) ↔ ¬ (p ∧ q) := fun p q => ⟨fun h w => h.elim (fun a => a w.1) (fun a => a w.2), fun h => (Classical.em p).elim (fun a => Or.inr (fun b => h ⟨a, b⟩)) Or.inl⟩
  rw [nn, nn]
/-- a piece along which Q is not 0 everywhere -/
theorem np_zz (hP : f_X8_follow nw k 0 n = (ya, yb, yc)) (hQ : f_X8_follow nw k 1 n = (qa, qb, qc)) (ha : bl qa 1728) (hb : bl qb 1824) (hc : bl qc 484) (ka : bl ya 1728) (kb : bl yb 1824) (kc : bl yc 484) (hw : qa.toInt * yb.toInt - ya.toInt * qb.toInt ≠ 0 → ((2 * qa.toInt * (qa.toInt * yc.toInt - ya.toInt * qc.toInt) - (qa.toInt * yb.toInt - ya.toInt * qb.toInt) * qb.toInt).natAbs : Int) ≤ 3000000000 * ((qa.toInt * yb.toInt - ya.toInt * qb.toInt).natAbs : Int)) (hz : f_X4_isZero qa qb qc = 0) : (okS (sgI qa.toInt) (sgI qb.toInt) (sgI qc.toInt) (sgI (qb.toInt + qc.toInt)) (sgI (2 * qa.toInt + qb.toInt)) (sgI (qa.toInt + qb.toInt + qc.toInt)) (sgI (qb.toInt * qb.toInt - 4 * qa.toInt * qc.toInt)) (sarI qa.toInt qb.toInt qc.toInt (-1) ya.toInt yb.toInt yc.toInt) (sarI qa.toInt qb.toInt qc.toInt 1 ya.toInt yb.toInt yc.toInt) (sgI yc.toInt) (sgI (ya.toInt + yb.toInt + yc.toInt)) = true → (f_X8_notePiece nw aa bb dd ro rt db sg an mn k n).1 = 1 ∧ n3 (f_X8_notePiece nw aa bb dd ro rt db sg an mn k n) = wr sg an mn (hdS (sgI qc.toInt) (sgI yc.toInt) :: tlS (sgI qa.toInt) (sgI qb.toInt) (sgI qc.toInt) (sgI (qb.toInt + qc.toInt)) (sgI (2 * qa.toInt + qb.toInt)) (sgI (qa.toInt + qb.toInt + qc.toInt)) (sgI (qb.toInt * qb.toInt - 4 * qa.toInt * qc.toInt)) (sarI qa.toInt qb.toInt qc.toInt (-1) ya.toInt yb.toInt yc.toInt) (sarI qa.toInt qb.toInt qc.toInt 1 ya.toInt yb.toInt yc.toInt))) ∧ (okS (sgI qa.toInt) (sgI qb.toInt) (sgI qc.toInt) (sgI (qb.toInt + qc.toInt)) (sgI (2 * qa.toInt + qb.toInt)) (sgI (qa.toInt + qb.toInt + qc.toInt)) (sgI (qb.toInt * qb.toInt - 4 * qa.toInt * qc.toInt)) (sarI qa.toInt qb.toInt qc.toInt (-1) ya.toInt yb.toInt yc.toInt) (sarI qa.toInt qb.toInt qc.toInt 1 ya.toInt yb.toInt yc.toInt) (sgI yc.toInt) (sgI (ya.toInt + yb.toInt + yc.toInt)) = false → (f_X8_notePiece nw aa bb dd ro rt db sg an mn k n).1 = 0) := by
  have ha5 : bl qa 50000 := bl_mono ha (by decide)
  have hb5 : bl qb 50000 := bl_mono hb (by decide)
  have hc5 : bl qc 50000 := bl_mono hc (by decide)
  have hzz := zz_of hz
  have zb := zzB_of (cns_of qa.toInt qb.toInt qc.toInt) hzz
  have cd := imp_of (all7_of chkD_all (sg_in qa.toInt) (sg_in qb.toInt) (sg_in qc.toInt) (sg_in (qb.toInt + qc.toInt)) (sg_in (2 * qa.toInt + qb.toInt)) (sg_in (qa.toInt + qb.toInt + qc.toInt)) (sg_in (qb.toInt * qb.toInt - 4 * qa.toInt * qc.toInt))) zb
  have fi := frS_ind (sgI qa.toInt) (sgI qa.toInt) (sgI qb.toInt) (sgI qc.toInt) (sgI (qb.toInt + qc.toInt)) (sgI (qb.toInt * qb.toInt - 4 * qa.toInt * qc.toInt)) (-(sgI qb.toInt * sgI qa.toInt)) (-(sgI (2 * qa.toInt + qb.toInt) * sgI qa.toInt)) (sgI (qa.toInt + qb.toInt + qc.toInt)) (f_X8_hasNought ya yb yc rt).2.2.2 (fun _ => 0)
  rw [← frM_eq ha5 hb5 hc5] at fi
  obtain ⟨f1, f2, f3, f4⟩ := fi
  have f1 : (f_X8_findRoots qa qb qc (f_X8_hasNought ya yb yc rt).2.2.2).1 = (frZ (sgI qa.toInt) (sgI qb.toInt) (sgI qc.toInt) (sgI (qb.toInt + qc.toInt)) (sgI (2 * qa.toInt + qb.toInt)) (sgI (qa.toInt + qb.toInt + qc.toInt)) (sgI (qb.toInt * qb.toInt - 4 * qa.toInt * qc.toInt))).1 := f1
  have f2 : (f_X8_findRoots qa qb qc (f_X8_hasNought ya yb yc rt).2.2.2).2.1 = (frZ (sgI qa.toInt) (sgI qb.toInt) (sgI qc.toInt) (sgI (qb.toInt + qc.toInt)) (sgI (2 * qa.toInt + qb.toInt)) (sgI (qa.toInt + qb.toInt + qc.toInt)) (sgI (qb.toInt * qb.toInt - 4 * qa.toInt * qc.toInt))).2.1 := f2
  have f3 : ∀ r, r < (frZ (sgI qa.toInt) (sgI qb.toInt) (sgI qc.toInt) (sgI (qb.toInt + qc.toInt)) (sgI (2 * qa.toInt + qb.toInt)) (sgI (qa.toInt + qb.toInt + qc.toInt)) (sgI (qb.toInt * qb.toInt - 4 * qa.toInt * qc.toInt))).1 → (f_X8_findRoots qa qb qc (f_X8_hasNought ya yb yc rt).2.2.2).2.2 r = (frZ (sgI qa.toInt) (sgI qb.toInt) (sgI qc.toInt) (sgI (qb.toInt + qc.toInt)) (sgI (2 * qa.toInt + qb.toInt)) (sgI (qa.toInt + qb.toInt + qc.toInt)) (sgI (qb.toInt * qb.toInt - 4 * qa.toInt * qc.toInt))).2.2 r := fun r hr => f3 r (by rw [f1]; exact hr)
  have f4 : (frZ (sgI qa.toInt) (sgI qb.toInt) (sgI qc.toInt) (sgI (qb.toInt + qc.toInt)) (sgI (2 * qa.toInt + qb.toInt)) (sgI (qa.toInt + qb.toInt + qc.toInt)) (sgI (qb.toInt * qb.toInt - 4 * qa.toInt * qc.toInt))).1 ≤ 2 := by rw [← f1]; exact f4
  have w2 : ∀ r, r < (frZ (sgI qa.toInt) (sgI qb.toInt) (sgI qc.toInt) (sgI (qb.toInt + qc.toInt)) (sgI (2 * qa.toInt + qb.toInt)) (sgI (qa.toInt + qb.toInt + qc.toInt)) (sgI (qb.toInt * qb.toInt - 4 * qa.toInt * qc.toInt))).1 → (frZ (sgI qa.toInt) (sgI qb.toInt) (sgI qc.toInt) (sgI (qb.toInt + qc.toInt)) (sgI (2 * qa.toInt + qb.toInt)) (sgI (qa.toInt + qb.toInt + qc.toInt)) (sgI (qb.toInt * qb.toInt - 4 * qa.toInt * qc.toInt))).2.2 r = 2 → sgI qa.toInt = 0 ∨ sgI (qb.toInt * qb.toInt - 4 * qa.toInt * qc.toInt) = 0 := by
    unfold chkD at cd
    simp only [Bool.or_eq_true, Bool.and_eq_true, beq_iff_eq, Bool.not_eq_true', beq_eq_false_iff_ne, ne_eq] at cd
    intro r hr he
    have hr2 : r = 0 ∨ r = 1 := by omega
    rcases cd with c | ⟨c0, c1⟩
    · omega
    · rcases hr2 with e | e
      · subst e
        rcases c0 with (c0 | c0) | c0
        · exact absurd he c0
        · exact Or.inl c0
        · exact Or.inr c0
      · subst e
        rcases c1 with c1 | (c1 | c1) | c1
        · omega
        · exact absurd he c1
        · exact Or.inl c1
        · exact Or.inr c1
  have hp : ∀ r, r < (frZ (sgI qa.toInt) (sgI qb.toInt) (sgI qc.toInt) (sgI (qb.toInt + qc.toInt)) (sgI (2 * qa.toInt + qb.toInt)) (sgI (qa.toInt + qb.toInt + qc.toInt)) (sgI (qb.toInt * qb.toInt - 4 * qa.toInt * qc.toInt))).1 → f_X8_signAt qa qb qc ((frZ (sgI qa.toInt) (sgI qb.toInt) (sgI qc.toInt) (sgI (qb.toInt + qc.toInt)) (sgI (2 * qa.toInt + qb.toInt)) (sgI (qa.toInt + qb.toInt + qc.toInt)) (sgI (qb.toInt * qb.toInt - 4 * qa.toInt * qc.toInt))).2.2 r) ya yb yc = pwS ((frZ (sgI qa.toInt) (sgI qb.toInt) (sgI qc.toInt) (sgI (qb.toInt + qc.toInt)) (sgI (2 * qa.toInt + qb.toInt)) (sgI (qa.toInt + qb.toInt + qc.toInt)) (sgI (qb.toInt * qb.toInt - 4 * qa.toInt * qc.toInt))).2.2 r) (sgI qa.toInt) (sarI qa.toInt qb.toInt qc.toInt (-1) ya.toInt yb.toInt yc.toInt) (sarI qa.toInt qb.toInt qc.toInt 1 ya.toInt yb.toInt yc.toInt) := fun r hr => sat_eq ha hb hc ka kb kc hw (w2 r hr)
  have L := fun (zan zsg : Nat → Int32) (z9 : Int32) (m : Nat) => l205 (aa := aa) (bb := bb) (dd := dd) (ro := ro) (db := db) (sg := sg) (an := an) (mn := mn) hP hQ f1 f2 f3 f4 hp zan zsg z9 m
  have e3 : ((qa + qb) + qc).toInt = qa.toInt + qb.toInt + qc.toInt := (addL (addL (⟨rfl, ha⟩ : qa.toInt = qa.toInt ∧ bl qa 1728) ⟨rfl, hb⟩ (by decide)) ⟨rfl, hc⟩ (by decide)).1
  have e4 : ((ya + yb) + yc).toInt = ya.toInt + yb.toInt + yc.toInt := (addL (addL (⟨rfl, ka⟩ : ya.toInt = ya.toInt ∧ bl ya 1728) ⟨rfl, kb⟩ (by decide)) ⟨rfl, kc⟩ (by decide)).1
  have top : (f_X8_notePiece nw aa bb dd ro rt db sg an mn k n) = fb_X8_notePiece_b83 nw aa bb dd ro rt db sg an mn k n := by
    unfold f_X8_notePiece
    simp only [hP, hQ, lc_0]
    by_cases a : sgI qa.toInt = 0
    · rw [if_pos a]
      by_cases b : sgI qb.toInt = 0
      · rw [if_pos b, if_neg (fun c => hzz ⟨a, b, c⟩)]
      · rw [if_neg b]
    · rw [if_neg a]
  have tail : ∀ (m : Nat) (wsg wan : Nat → Int32), fb_X8_notePiece_b144 nw aa bb dd ro rt db sg an mn k n m wsg wan = l_X8_notePiece_205 nw aa bb dd ro rt db sg an mn k n ((frZ (sgI qa.toInt) (sgI qb.toInt) (sgI qc.toInt) (sgI (qb.toInt + qc.toInt)) (sgI (2 * qa.toInt + qb.toInt)) (sgI (qa.toInt + qb.toInt + qc.toInt)) (sgI (qb.toInt * qb.toInt - 4 * qa.toInt * qc.toInt))).1 + 1) 0 (upd wan m 0) (upd wsg m (s0S (sgI qa.toInt) (sgI qb.toInt) (sgI qc.toInt))) (s0S (sgI qa.toInt) (sgI qb.toInt) (sgI qc.toInt)) (m + 1) := by
    intro m wsg wan
    unfold fb_X8_notePiece_b144
    simp only [hP, hQ, lc_0, sign_sg, f1]
    rfl
  rw [top]
  unfold fb_X8_notePiece_b83 fb_X8_notePiece_b111
  simp only [hP, hQ, lc_0, e3, e4, tail, sign_sg]
  have ok := okS_iff (sgI qa.toInt) (sgI qb.toInt) (sgI qc.toInt) (sgI (qb.toInt + qc.toInt)) (sgI (2 * qa.toInt + qb.toInt)) (sgI (qa.toInt + qb.toInt + qc.toInt)) (sgI (qb.toInt * qb.toInt - 4 * qa.toInt * qc.toInt)) (sarI qa.toInt qb.toInt qc.toInt (-1) ya.toInt yb.toInt yc.toInt) (sarI qa.toInt qb.toInt qc.toInt 1 ya.toInt yb.toInt yc.toInt) (sgI yc.toInt) (sgI (ya.toInt + yb.toInt + yc.toInt))
  unfold pr0 pr1 at ok
  constructor
  · intro h
    obtain ⟨k1, k2, k3⟩ := ok.mp h
    by_cases c : sgI qc.toInt = 0
    · rw [if_pos c, if_neg (fun q => k1 ⟨c, q⟩)]
      have s := (L (upd (upd an mn (sgI yc.toInt)) (mn + 1) 0) (upd (upd sg mn 0) (mn + 1) (s0S (sgI qa.toInt) (sgI qb.toInt) (sgI qc.toInt))) (s0S (sgI qa.toInt) (sgI qb.toInt) (sgI qc.toInt)) (mn + 1 + 1)).1 k3
      have fin : wr sg an mn (hdS (sgI qc.toInt) (sgI yc.toInt) :: tlS (sgI qa.toInt) (sgI qb.toInt) (sgI qc.toInt) (sgI (qb.toInt + qc.toInt)) (sgI (2 * qa.toInt + qb.toInt)) (sgI (qa.toInt + qb.toInt + qc.toInt)) (sgI (qb.toInt * qb.toInt - 4 * qa.toInt * qc.toInt)) (sarI qa.toInt qb.toInt qc.toInt (-1) ya.toInt yb.toInt yc.toInt) (sarI qa.toInt qb.toInt qc.toInt 1 ya.toInt yb.toInt yc.toInt)) = wr (upd (upd sg mn 0) (mn + 1) (s0S (sgI qa.toInt) (sgI qb.toInt) (sgI qc.toInt))) (upd (upd an mn (sgI yc.toInt)) (mn + 1) 0) (mn + 1 + 1) (goS (frZ (sgI qa.toInt) (sgI qb.toInt) (sgI qc.toInt) (sgI (qb.toInt + qc.toInt)) (sgI (2 * qa.toInt + qb.toInt)) (sgI (qa.toInt + qb.toInt + qc.toInt)) (sgI (qb.toInt * qb.toInt - 4 * qa.toInt * qc.toInt))).1 (frZ (sgI qa.toInt) (sgI qb.toInt) (sgI qc.toInt) (sgI (qb.toInt + qc.toInt)) (sgI (2 * qa.toInt + qb.toInt)) (sgI (qa.toInt + qb.toInt + qc.toInt)) (sgI (qb.toInt * qb.toInt - 4 * qa.toInt * qc.toInt))).2.1 (s0S (sgI qa.toInt) (sgI qb.toInt) (sgI qc.toInt)) (pwS ((frZ (sgI qa.toInt) (sgI qb.toInt) (sgI qc.toInt) (sgI (qb.toInt + qc.toInt)) (sgI (2 * qa.toInt + qb.toInt)) (sgI (qa.toInt + qb.toInt + qc.toInt)) (sgI (qb.toInt * qb.toInt - 4 * qa.toInt * qc.toInt))).2.2 0) (sgI qa.toInt) (sarI qa.toInt qb.toInt qc.toInt (-1) ya.toInt yb.toInt yc.toInt) (sarI qa.toInt qb.toInt qc.toInt 1 ya.toInt yb.toInt yc.toInt)) (pwS ((frZ (sgI qa.toInt) (sgI qb.toInt) (sgI qc.toInt) (sgI (qb.toInt + qc.toInt)) (sgI (2 * qa.toInt + qb.toInt)) (sgI (qa.toInt + qb.toInt + qc.toInt)) (sgI (qb.toInt * qb.toInt - 4 * qa.toInt * qc.toInt))).2.2 1) (sgI qa.toInt) (sarI qa.toInt qb.toInt qc.toInt (-1) ya.toInt yb.toInt yc.toInt) (sarI qa.toInt qb.toInt qc.toInt 1 ya.toInt yb.toInt yc.toInt))) := by
        unfold tlS hdS pr0 pr1
        rw [if_pos c, if_pos c]
        rfl
      rw [fin]
      by_cases d : sgI (qa.toInt + qb.toInt + qc.toInt) = 0
      · rw [if_pos d, if_neg (fun q => k2 ⟨d, q⟩)]; exact s
      · rw [if_neg d]; exact s
    · rw [if_neg c]
      have s := (L (upd an mn 0) (upd sg mn (s0S (sgI qa.toInt) (sgI qb.toInt) (sgI qc.toInt))) (s0S (sgI qa.toInt) (sgI qb.toInt) (sgI qc.toInt)) (mn + 1)).1 k3
      have s0 : s0S (sgI qa.toInt) (sgI qb.toInt) (sgI qc.toInt) = sgI qc.toInt := if_neg c
      have fin : wr sg an mn (hdS (sgI qc.toInt) (sgI yc.toInt) :: tlS (sgI qa.toInt) (sgI qb.toInt) (sgI qc.toInt) (sgI (qb.toInt + qc.toInt)) (sgI (2 * qa.toInt + qb.toInt)) (sgI (qa.toInt + qb.toInt + qc.toInt)) (sgI (qb.toInt * qb.toInt - 4 * qa.toInt * qc.toInt)) (sarI qa.toInt qb.toInt qc.toInt (-1) ya.toInt yb.toInt yc.toInt) (sarI qa.toInt qb.toInt qc.toInt 1 ya.toInt yb.toInt yc.toInt)) = wr (upd sg mn (s0S (sgI qa.toInt) (sgI qb.toInt) (sgI qc.toInt))) (upd an mn 0) (mn + 1) (goS (frZ (sgI qa.toInt) (sgI qb.toInt) (sgI qc.toInt) (sgI (qb.toInt + qc.toInt)) (sgI (2 * qa.toInt + qb.toInt)) (sgI (qa.toInt + qb.toInt + qc.toInt)) (sgI (qb.toInt * qb.toInt - 4 * qa.toInt * qc.toInt))).1 (frZ (sgI qa.toInt) (sgI qb.toInt) (sgI qc.toInt) (sgI (qb.toInt + qc.toInt)) (sgI (2 * qa.toInt + qb.toInt)) (sgI (qa.toInt + qb.toInt + qc.toInt)) (sgI (qb.toInt * qb.toInt - 4 * qa.toInt * qc.toInt))).2.1 (s0S (sgI qa.toInt) (sgI qb.toInt) (sgI qc.toInt)) (pwS ((frZ (sgI qa.toInt) (sgI qb.toInt) (sgI qc.toInt) (sgI (qb.toInt + qc.toInt)) (sgI (2 * qa.toInt + qb.toInt)) (sgI (qa.toInt + qb.toInt + qc.toInt)) (sgI (qb.toInt * qb.toInt - 4 * qa.toInt * qc.toInt))).2.2 0) (sgI qa.toInt) (sarI qa.toInt qb.toInt qc.toInt (-1) ya.toInt yb.toInt yc.toInt) (sarI qa.toInt qb.toInt qc.toInt 1 ya.toInt yb.toInt yc.toInt)) (pwS ((frZ (sgI qa.toInt) (sgI qb.toInt) (sgI qc.toInt) (sgI (qb.toInt + qc.toInt)) (sgI (2 * qa.toInt + qb.toInt)) (sgI (qa.toInt + qb.toInt + qc.toInt)) (sgI (qb.toInt * qb.toInt - 4 * qa.toInt * qc.toInt))).2.2 1) (sgI qa.toInt) (sarI qa.toInt qb.toInt qc.toInt (-1) ya.toInt yb.toInt yc.toInt) (sarI qa.toInt qb.toInt qc.toInt 1 ya.toInt yb.toInt yc.toInt))) := by
        unfold tlS hdS pr0 pr1
        rw [if_neg c, if_neg c, s0]
        rfl
      rw [fin]
      by_cases d : sgI (qa.toInt + qb.toInt + qc.toInt) = 0
      · rw [if_pos d, if_neg (fun q => k2 ⟨d, q⟩)]; exact s
      · rw [if_neg d]; exact s
  · intro h
    have nk : ¬ (¬ (sgI qc.toInt = 0 ∧ sgI yc.toInt = 0) ∧ ¬ (sgI (qa.toInt + qb.toInt + qc.toInt) = 0 ∧ sgI (ya.toInt + yb.toInt + yc.toInt) = 0) ∧ ((frZ (sgI qa.toInt) (sgI qb.toInt) (sgI qc.toInt) (sgI (qb.toInt + qc.toInt)) (sgI (2 * qa.toInt + qb.toInt)) (sgI (qa.toInt + qb.toInt + qc.toInt)) (sgI (qb.toInt * qb.toInt - 4 * qa.toInt * qc.toInt))).1 = 0 ∨ (¬ pwS ((frZ (sgI qa.toInt) (sgI qb.toInt) (sgI qc.toInt) (sgI (qb.toInt + qc.toInt)) (sgI (2 * qa.toInt + qb.toInt)) (sgI (qa.toInt + qb.toInt + qc.toInt)) (sgI (qb.toInt * qb.toInt - 4 * qa.toInt * qc.toInt))).2.2 0) (sgI qa.toInt) (sarI qa.toInt qb.toInt qc.toInt (-1) ya.toInt yb.toInt yc.toInt) (sarI qa.toInt qb.toInt qc.toInt 1 ya.toInt yb.toInt yc.toInt) = 0 ∧ ((frZ (sgI qa.toInt) (sgI qb.toInt) (sgI qc.toInt) (sgI (qb.toInt + qc.toInt)) (sgI (2 * qa.toInt + qb.toInt)) (sgI (qa.toInt + qb.toInt + qc.toInt)) (sgI (qb.toInt * qb.toInt - 4 * qa.toInt * qc.toInt))).1 = 1 ∨ ¬ pwS ((frZ (sgI qa.toInt) (sgI qb.toInt) (sgI qc.toInt) (sgI (qb.toInt + qc.toInt)) (sgI (2 * qa.toInt + qb.toInt)) (sgI (qa.toInt + qb.toInt + qc.toInt)) (sgI (qb.toInt * qb.toInt - 4 * qa.toInt * qc.toInt))).2.2 1) (sgI qa.toInt) (sarI qa.toInt qb.toInt qc.toInt (-1) ya.toInt yb.toInt yc.toInt) (sarI qa.toInt qb.toInt qc.toInt 1 ya.toInt yb.toInt yc.toInt) = 0)))) := fun q => by rw [ok.mpr q] at h; exact absurd h (by decide)
    have fl : ∀ zan zsg z9 m, ¬ (sgI qc.toInt = 0 ∧ sgI yc.toInt = 0) → ¬ (sgI (qa.toInt + qb.toInt + qc.toInt) = 0 ∧ sgI (ya.toInt + yb.toInt + yc.toInt) = 0) → (l_X8_notePiece_205 nw aa bb dd ro rt db sg an mn k n ((frZ (sgI qa.toInt) (sgI qb.toInt) (sgI qc.toInt) (sgI (qb.toInt + qc.toInt)) (sgI (2 * qa.toInt + qb.toInt)) (sgI (qa.toInt + qb.toInt + qc.toInt)) (sgI (qb.toInt * qb.toInt - 4 * qa.toInt * qc.toInt))).1 + 1) 0 zan zsg z9 m).1 = 0 := fun zan zsg z9 m x y => (L zan zsg z9 m).2 (fun w => nk ⟨x, y, w⟩)
    by_cases c : sgI qc.toInt = 0
    · rw [if_pos c]
      by_cases p : sgI yc.toInt = 0
      · rw [if_pos p]
      · rw [if_neg p]
        by_cases d : sgI (qa.toInt + qb.toInt + qc.toInt) = 0
        · rw [if_pos d]
          by_cases e : sgI (ya.toInt + yb.toInt + yc.toInt) = 0
          · rw [if_pos e]
          · rw [if_neg e]; exact fl _ _ _ _ (fun q => p q.2) (fun q => e q.2)
        · rw [if_neg d]; exact fl _ _ _ _ (fun q => p q.2) (fun q => d q.1)
    · rw [if_neg c]
      by_cases d : sgI (qa.toInt + qb.toInt + qc.toInt) = 0
      · rw [if_pos d]
        by_cases e : sgI (ya.toInt + yb.toInt + yc.toInt) = 0
        · rw [if_pos e]
        · rw [if_neg e]; exact fl _ _ _ _ (fun q => c q.1) (fun q => e q.2)
      · rw [if_neg d]; exact fl _ _ _ _ (fun q => c q.1) (fun q => d q.1)
end NOTES
