section WLOOP
theorem hd_in (y x : Int) : (hdS (sgI y) (sgI x)).1 = 0 ∨ (hdS (sgI y) (sgI x)).1 = 1 ∨ (hdS (sgI y) (sgI x)).1 = -1 := by
  unfold hdS
  rcases sgI_tri y with ⟨_, e⟩ | ⟨_, e⟩ | ⟨_, e⟩ <;> rw [e]
  · exact Or.inr (Or.inr rfl)
  · exact Or.inl rfl
  · exact Or.inr (Or.inl rfl)
theorem jn {e : Int32 × Int32} {y x : Int} (h1 : ¬ sgI y = 0 → e = (sgI y, 0)) (h2 : e.1 = 0 → (0 < e.2 ↔ 0 < sgI x)) : crr e (sgI y) (sgI x) = adj e (hdS (sgI y) (sgI x)) ∧ gd e (hdS (sgI y) (sgI x)) := by
  by_cases h : sgI y = 0
  · have hh : (hdS (sgI y) (sgI x)) = (0, sgI x) := by unfold hdS; rw [if_pos h]
    rw [hh]
    constructor
    · unfold crr adj
      have a : ¬ (e.1 = 0 ∧ 0 < e.2 ∧ (0 : Int32) = -1) := fun q => absurd q.2.2 (by decide)
      rw [if_neg a, Int32.sub_zero]
      by_cases b : e.1 = -1 ∧ sgI y = 0 ∧ 0 < sgI x
      · rw [if_pos b, if_pos ⟨b.1, rfl, b.2.2⟩]
      · rw [if_neg b, if_neg (fun q => b ⟨q.1, h, q.2.2⟩)]
    · exact ⟨fun _ q => absurd rfl q, fun q _ => h2 q, Or.inl rfl⟩
  · have hh : (hdS (sgI y) (sgI x)) = (sgI y, 0) := by unfold hdS; rw [if_neg h]
    have i := hd_in y x
    rw [hh] at i ⊢
    rw [h1 h]
    constructor
    · unfold crr adj
      rw [if_neg (fun q => h q.2.1), if_neg (fun q => h q.2.1), if_neg (fun q => h q.1)]; rfl
    · exact ⟨fun _ _ => rfl, fun q => absurd q h, i⟩
theorem wi_first {sg an : Nat → Int32} {sp p1 U : Int32} {y x : Int} {tl : List (Int32 × Int32)} {R : Nat × (Nat → Int32) × (Nat → Int32)} (hR : R = wr sg an 0 ((hdS (sgI y) (sgI x)) :: tl)) (hU : U = lsum (hdS (sgI y) (sgI x)) tl + crr (llast (hdS (sgI y) (sgI x)) tl) sp p1) (hg : lgd (hdS (sgI y) (sgI x)) tl = true) (h1 : ¬ sp = 0 → llast (hdS (sgI y) (sgI x)) tl = (sp, 0)) (h2 : (llast (hdS (sgI y) (sgI x)) tl).1 = 0 → (0 < (llast (hdS (sgI y) (sgI x)) tl).2 ↔ 0 < p1)) (hl : tl.length ≤ 5) : WI R.2.1 R.2.2 R.1 (0 + U) sp p1 (hdS (sgI y) (sgI x)) 6 := by
  have e0 : el (upd sg 0 (hdS (sgI y) (sgI x)).1) (upd an 0 (hdS (sgI y) (sgI x)).2) 0 = (hdS (sgI y) (sgI x)) := el_us
  obtain ⟨a1, a2, a3, a4, a5, a6⟩ := wr_v tl (upd sg 0 (hdS (sgI y) (sgI x)).1) (upd an 0 (hdS (sgI y) (sgI x)).2) 1 (by decide) (by show lgd (el _ _ 0) tl = true; rw [e0]; exact hg) (fun i hi => by omega)
  have hR2 : R = wr (upd sg 0 (hdS (sgI y) (sgI x)).1) (upd an 0 (hdS (sgI y) (sgI x)).2) 1 tl := hR
  rw [← hR2] at a1 a2 a3 a4 a5 a6
  have b0 : el (upd sg 0 (hdS (sgI y) (sgI x)).1) (upd an 0 (hdS (sgI y) (sgI x)).2) (1 - 1) = (hdS (sgI y) (sgI x)) := e0
  rw [b0] at a3 a5
  refine ⟨a1, a4, ?_, ?_, ?_, ?_, by omega⟩
  · rw [a3, a5, hU]
    show 0 + _ = (0 + _) + _
    rw [Int32.zero_add, Int32.zero_add]
  · rw [a2 0 (by decide)]; exact e0
  · rw [a5]; exact h1
  · rw [a5]; exact h2
theorem wi_step {sg an : Nat → Int32} {m : Nat} {S : Int32} {h : Int32 × Int32} {B : Nat} {sp p1 U : Int32} {y x : Int} {tl : List (Int32 × Int32)} {R : Nat × (Nat → Int32) × (Nat → Int32)} (hI : WI sg an m S (sgI y) (sgI x) h B) (hR : R = wr sg an m ((hdS (sgI y) (sgI x)) :: tl)) (hU : U = lsum (hdS (sgI y) (sgI x)) tl + crr (llast (hdS (sgI y) (sgI x)) tl) sp p1) (hg : lgd (hdS (sgI y) (sgI x)) tl = true) (h1 : ¬ sp = 0 → llast (hdS (sgI y) (sgI x)) tl = (sp, 0)) (h2 : (llast (hdS (sgI y) (sgI x)) tl).1 = 0 → (0 < (llast (hdS (sgI y) (sgI x)) tl).2 ↔ 0 < p1)) (hl : tl.length ≤ 5) : WI R.2.1 R.2.2 R.1 (S + U) sp p1 h (B + 6) := by
  obtain ⟨i1, i2, i3, i4, i5, i6, i7⟩ := hI
  obtain ⟨j1, j2⟩ := jn i5 i6
  obtain ⟨a1, a2, a3, a4, a5, a6⟩ := wr_v ((hdS (sgI y) (sgI x)) :: tl) sg an m i1 (by show (decide (gd _ _) && lgd _ tl) = true; rw [decide_eq_true j2, hg]; rfl) i2
  rw [← hR] at a1 a2 a3 a4 a5 a6
  refine ⟨by omega, a4, ?_, ?_, ?_, ?_, ?_⟩
  · rw [a3, a5, hU, i3, j1]
    show asm sg an (m - 1) + adj _ _ + (lsum _ tl + crr (llast _ tl) sp p1) = asm sg an (m - 1) + (adj _ _ + lsum _ tl) + crr (llast _ tl) sp p1
    rw [Int32.add_assoc, Int32.add_assoc, Int32.add_assoc]
  · rw [a2 0 i1]; exact i4
  · rw [a5]; exact h1
  · rw [a5]; exact h2
  · have : ((hdS (sgI y) (sgI x)) :: tl).length = tl.length + 1 := rfl
    omega
variable {fu fv xs ys : Nat → Int32} {n : Nat} {nw : Nat → Int32}
/-- the speeds at a corner, their signs -/
def cy0 (gu xs ys : Nat → Int32) (k : Nat) : Int := (f_X3_at gu (xs k) (ys k)).toInt
theorem cyk {gu : Nat → Int32} (hg : sm6 gu) {k : Nat} (x0 : bd (xs k) 6) (y0 : bd (ys k) 6) (x1 : bd (xs (k + 1)) 6) (y1 : bd (ys (k + 1)) 6) : (f_X4_follow gu xs ys k).2.2.toInt = cy0 gu xs ys k ∧ (f_X4_follow gu xs ys k).1.toInt + (f_X4_follow gu xs ys k).2.1.toInt + (f_X4_follow gu xs ys k).2.2.toInt = cy0 gu xs ys (k + 1) := by
  have f := fo_b hg x0 y0 x1 y1
  have a0 := at_b hg x0 y0
  have a1 := at_b hg x1 y1
  unfold cy0
  constructor
  · rw [f.2.2.1, a0.1]; rfl
  · rw [f.1.1, f.2.1.1, f.2.2.1, a1.1]
    unfold qA qB qC
    grind
theorem w24_0 (fi : Int32) (aa bb dd : Int64) (ro : Nat) (rt : Nat → Int32) (db : Int32) (sg an : Nat → Int32) (mn f ki : Nat) (zan zrt zsg : Nat → Int32) (a1 a2 a3 : Int64) (r1 : Nat) (d1 : Int32) (m : Nat) {z : Int32} (hz : z = 0) : (l_X8_wind_24 nw fi aa bb dd ro rt db sg an mn n f ki zan zrt zsg z a1 a2 a3 r1 d1 m).2.2.2.1 = 0 := by
  subst hz
  cases f with
  | zero => rfl
  | succ f =>
    unfold l_X8_wind_24
    by_cases h : nI n ≤ nI ki
    · rw [if_pos h]
    · rw [if_neg h, if_pos rfl]
theorem pc_ps (h : RA fu fv xs ys n nw) {ki : Nat} (hk : ki < n) (aa bb dd : Int64) (ro : Nat) (rt : Nat → Int32) (db : Int32) (sg an : Nat → Int32) (m : Nat) : (¬ f_X4_meetsZeroOf (f_X4_follow fv xs ys ki).1 (f_X4_follow fv xs ys ki).2.1 (f_X4_follow fv xs ys ki).2.2 (f_X4_follow fu xs ys ki).1 (f_X4_follow fu xs ys ki).2.1 (f_X4_follow fu xs ys ki).2.2 = 0 ∧ (f_X8_notePiece nw aa bb dd ro rt db sg an m ki n).1 = 0) ∨ (f_X4_meetsZeroOf (f_X4_follow fv xs ys ki).1 (f_X4_follow fv xs ys ki).2.1 (f_X4_follow fv xs ys ki).2.2 (f_X4_follow fu xs ys ki).1 (f_X4_follow fu xs ys ki).2.1 (f_X4_follow fu xs ys ki).2.2 = 0 ∧ (f_X8_notePiece nw aa bb dd ro rt db sg an m ki n).1 = 1 ∧ ∃ tl, n3 (f_X8_notePiece nw aa bb dd ro rt db sg an m ki n) = wr sg an m (hdS (sgI (cy0 fv xs ys ki)) (sgI (cy0 fu xs ys ki)) :: tl) ∧ f_X4_upwardCrossings (f_X4_follow fv xs ys ki).1 (f_X4_follow fv xs ys ki).2.1 (f_X4_follow fv xs ys ki).2.2 (f_X4_follow fu xs ys ki).1 (f_X4_follow fu xs ys ki).2.1 (f_X4_follow fu xs ys ki).2.2 = lsum (hdS (sgI (cy0 fv xs ys ki)) (sgI (cy0 fu xs ys ki))) tl + crr (llast (hdS (sgI (cy0 fv xs ys ki)) (sgI (cy0 fu xs ys ki))) tl) (sgI (cy0 fv xs ys (ki + 1))) (sgI (cy0 fu xs ys (ki + 1))) ∧ lgd (hdS (sgI (cy0 fv xs ys ki)) (sgI (cy0 fu xs ys ki))) tl = true ∧ (¬ sgI (cy0 fv xs ys (ki + 1)) = 0 → llast (hdS (sgI (cy0 fv xs ys ki)) (sgI (cy0 fu xs ys ki))) tl = (sgI (cy0 fv xs ys (ki + 1)), 0)) ∧ ((llast (hdS (sgI (cy0 fv xs ys ki)) (sgI (cy0 fu xs ys ki))) tl).1 = 0 → (0 < (llast (hdS (sgI (cy0 fv xs ys ki)) (sgI (cy0 fu xs ys ki))) tl).2 ↔ 0 < sgI (cy0 fu xs ys (ki + 1)))) ∧ tl.length ≤ 5) := by
  have hn : 0 < n := by omega
  have c0 := ra_c h (Nat.le_of_lt hk) hn
  have c1 := ra_c h hk hn
  have fp := fo_b (ra_p h) c0.1 c0.2 c1.1 c1.2
  have fq := fo_b (ra_q h) c0.1 c0.2 c1.1 c1.2
  have yp := cyk (ra_p h) c0.1 c0.2 c1.1 c1.2
  have yq := cyk (ra_q h) c0.1 c0.2 c1.1 c1.2
  have p6 := ra_p h
  have q6 := ra_q h
  have hP : f_X8_follow nw ki 0 n = ((f_X4_follow fu xs ys ki).1, (f_X4_follow fu xs ys ki).2.1, (f_X4_follow fu xs ys ki).2.2) := e_fol h hk (ra_0 h)
  have hQ : f_X8_follow nw ki 1 n = ((f_X4_follow fv xs ys ki).1, (f_X4_follow fv xs ys ki).2.1, (f_X4_follow fv xs ys ki).2.2) := e_fol h hk (ra_1 h)
  have r := ps (aa := aa) (bb := bb) (dd := dd) (ro := ro) (rt := rt) (db := db) (sg := sg) (an := an) (mn := m) hP hQ fq.1.2 fq.2.1.2 fq.2.2.2 fp.1.2 fp.2.1.2 fp.2.2.2 (fun hu => whl (p6 0 (by decide)) (p6 1 (by decide)) (p6 2 (by decide)) (p6 3 (by decide)) (p6 4 (by decide)) (p6 5 (by decide)) (q6 0 (by decide)) (q6 1 (by decide)) (q6 2 (by decide)) (q6 3 (by decide)) (q6 4 (by decide)) (q6 5 (by decide)) c0.1 c0.2 c1.1 c1.2 fq.1.1 fq.2.1.1 fq.2.2.1 fp.1.1 fp.2.1.1 fp.2.2.1 fq.1.2 fq.2.1.2 fq.2.2.2 fp.1.2 fp.2.2.2 hu)
  rw [yq.2, yp.2, yq.1, yp.1] at r
  exact r
theorem wl (h : RA fu fv xs ys n nw) (ax bx cx ay by_ cy_ : Int64) (fi : Int32) (aa bb dd : Int64) (ro : Nat) (rt : Nat → Int32) (db : Int32) (sg an : Nat → Int32) (mn : Nat) {h0 : Int32 × Int32} : ∀ (f ki : Nat) (S : Int32) (q1 q2 q3 q4 q5 q6 : Int64) (zan zrt zsg : Nat → Int32) (a1 a2 a3 : Int64) (r1 : Nat) (d1 : Int32) (m : Nat), ki ≤ n → n - ki + 1 ≤ f → WI zsg zan m S (sgI (cy0 fv xs ys ki)) (sgI (cy0 fu xs ys ki)) h0 (6 * ki) → ((l_X7_wind_22 fu fv xs ys n ax bx cx ay by_ cy_ fi f ki S q1 q2 q3 q4 q5 q6).1 = -1000007 ∧ (l_X7_wind_22 fu fv xs ys n ax bx cx ay by_ cy_ fi f ki S q1 q2 q3 q4 q5 q6).2.1 = fi + 1 ∧ (l_X8_wind_24 nw fi aa bb dd ro rt db sg an mn n f ki zan zrt zsg 1 a1 a2 a3 r1 d1 m).2.2.2.1 = 0) ∨ ((l_X7_wind_22 fu fv xs ys n ax bx cx ay by_ cy_ fi f ki S q1 q2 q3 q4 q5 q6).2.1 = fi ∧ ¬ (l_X8_wind_24 nw fi aa bb dd ro rt db sg an mn n f ki zan zrt zsg 1 a1 a2 a3 r1 d1 m).2.2.2.1 = 0 ∧ WI (l_X8_wind_24 nw fi aa bb dd ro rt db sg an mn n f ki zan zrt zsg 1 a1 a2 a3 r1 d1 m).2.2.1 (l_X8_wind_24 nw fi aa bb dd ro rt db sg an mn n f ki zan zrt zsg 1 a1 a2 a3 r1 d1 m).1 (l_X8_wind_24 nw fi aa bb dd ro rt db sg an mn n f ki zan zrt zsg 1 a1 a2 a3 r1 d1 m).2.2.2.2.2.2.2.2.2 (l_X7_wind_22 fu fv xs ys n ax bx cx ay by_ cy_ fi f ki S q1 q2 q3 q4 q5 q6).1 (sgI (cy0 fv xs ys n)) (sgI (cy0 fu xs ys n)) h0 (6 * n)) := by
  have hn8 := h.2.2.1
  intro f
  induction f with
  | zero => intro ki S q1 q2 q3 q4 q5 q6 zan zrt zsg a1 a2 a3 r1 d1 m _ g; omega
  | succ f ih =>
    intro ki S q1 q2 q3 q4 q5 q6 zan zrt zsg a1 a2 a3 r1 d1 m g1 g2 hI
    unfold l_X7_wind_22 l_X8_wind_24
    rcases Nat.lt_or_ge ki n with q | q
    · have hc : ¬ nI n ≤ nI ki := nI_ge q (by omega)
      rw [if_neg hc, if_neg hc, if_neg (show ¬ (1 : Int32) = 0 by decide)]
      rcases pc_ps h q a1 a2 a3 r1 zrt d1 zsg zan m with ⟨b1, b2⟩ | ⟨b1, b2, tl, b3, b4, b5, b6, b7, b8⟩
      · left
        have b1 : ¬ f_X4_meetsZeroOf ((f_X7_followSpeeds fu fv xs ys ki).2.2.2.1) ((f_X7_followSpeeds fu fv xs ys ki).2.2.2.2.1) ((f_X7_followSpeeds fu fv xs ys ki).2.2.2.2.2) ((f_X7_followSpeeds fu fv xs ys ki).1) ((f_X7_followSpeeds fu fv xs ys ki).2.1) ((f_X7_followSpeeds fu fv xs ys ki).2.2.1) = 0 := b1
        rw [if_neg b1]
        exact ⟨rfl, rfl, w24_0 _ _ _ _ _ _ _ _ _ _ _ _ _ _ _ _ _ _ _ _ _ b2⟩
      · have b1 : f_X4_meetsZeroOf ((f_X7_followSpeeds fu fv xs ys ki).2.2.2.1) ((f_X7_followSpeeds fu fv xs ys ki).2.2.2.2.1) ((f_X7_followSpeeds fu fv xs ys ki).2.2.2.2.2) ((f_X7_followSpeeds fu fv xs ys ki).1) ((f_X7_followSpeeds fu fv xs ys ki).2.1) ((f_X7_followSpeeds fu fv xs ys ki).2.2.1) = 0 := b1
        rw [if_pos b1, b2]
        have st := wi_step hI b3 b4 b5 b6 b7 b8
        exact ih (ki + 1) _ _ _ _ _ _ _ _ _ _ _ _ _ _ _ _ q (by omega) st
    · have e : ki = n := by omega
      subst e
      have hc : nI ki ≤ nI ki := Int32.le_refl _
      rw [if_pos hc, if_pos hc]
      right
      exact ⟨rfl, show ¬ (1 : Int32) = 0 by decide, hI⟩
/-! once around -/
theorem w61 (fi : Int32) (aa bb dd : Int64) (ro : Nat) (rt : Nat → Int32) (db : Int32) (sg an : Nat → Int32) (mn : Nat) {M : Nat} {Sg : Nat → Int32} (h1 : (l_X8_wind_24 nw fi aa bb dd ro rt db sg an mn n (n + 1) 0 an rt sg 1 aa bb dd ro db 0).2.2.2.2.2.2.2.2.2 = M) (h2 : (l_X8_wind_24 nw fi aa bb dd ro rt db sg an mn n (n + 1) 0 an rt sg 1 aa bb dd ro db 0).2.2.1 = Sg) (hM : M < 2 ^ 30) : ∀ (f ki : Nat), ki ≤ M → M - ki + 1 ≤ f → (∀ i, i < ki → Sg i = 0) → (l_X8_wind_61 nw fi aa bb dd ro rt db sg an mn n f ki = M ∧ ∀ i, i < M → Sg i = 0) ∨ (l_X8_wind_61 nw fi aa bb dd ro rt db sg an mn n f ki < M ∧ ¬ Sg (l_X8_wind_61 nw fi aa bb dd ro rt db sg an mn n f ki) = 0) := by
  intro f
  induction f with
  | zero => intro ki _ h; omega
  | succ f ih =>
    intro ki g1 g2 g3
    unfold l_X8_wind_61
    rw [h1, h2]
    rcases Nat.lt_or_ge ki M with q | q
    · rw [if_neg (nI_ge q (by omega))]
      by_cases c : Sg ki = 0
      · rw [if_pos c]
        exact ih (ki + 1) (by omega) (by omega) (fun i hi => by
          by_cases e : i = ki
          · rw [e]; exact c
          · exact g3 i (by omega))
      · rw [if_neg c]; exact Or.inr ⟨q, c⟩
    · have e : ki = M := by omega
      subst e
      rw [if_pos (Int32.le_refl _)]
      exact Or.inl ⟨rfl, g3⟩
/-- the sum from the first note that is not 0 on, k notes far -/
def tsm (sg an : Nat → Int32) (M F k : Nat) : Int32 := if F + k < M then asm sg an (F + k) - asm sg an F else asm sg an (M - 1) - asm sg an F + adj (el sg an (M - 1)) (el sg an 0) + asm sg an (F + k - M)
theorem tsm_s (sg an : Nat → Int32) {M F k : Nat} (hF : F < M) (hk : k < M) : tsm sg an M F (k + 1) = tsm sg an M F k + adj (el sg an ((F + k) % M)) (el sg an ((F + (k + 1)) % M)) := by
  unfold tsm
  rcases Nat.lt_or_ge (F + (k + 1)) M with a | a
  · rw [if_pos a, if_pos (by omega), Nat.mod_eq_of_lt (show F + k < M by omega), Nat.mod_eq_of_lt a]
    show asm sg an (F + k) + adj (el sg an (F + k)) (el sg an (F + k + 1)) - asm sg an F = asm sg an (F + k) - asm sg an F + adj (el sg an (F + k)) (el sg an (F + k + 1))
    grind
  · rw [if_neg (by omega)]
    rcases Nat.lt_or_ge (F + k) M with b | b
    · have e : F + k = M - 1 := by omega
      rw [if_pos b, Nat.mod_eq_of_lt b, show F + (k + 1) = M from by omega, Nat.mod_self, Nat.sub_self, e]
      show _ + (0 : Int32) = _
      rw [Int32.add_zero]
    · rw [if_neg (by omega)]
      have e1 : (F + k) % M = F + k - M := by rw [Nat.mod_eq_sub_mod b, Nat.mod_eq_of_lt (by omega)]
      have e2 : (F + (k + 1)) % M = F + k - M + 1 := by rw [Nat.mod_eq_sub_mod (by omega), Nat.mod_eq_of_lt (by omega)]; omega
      rw [e1, e2, show F + (k + 1) - M = F + k - M + 1 from by omega]
      generalize F + k - M = j
      show _ + (asm sg an j + adj (el sg an j) (el sg an (j + 1))) = _
      grind
theorem gd_cy {sg an : Nat → Int32} {M : Nat} (hM : 0 < M) (h1 : ∀ i, i + 1 < M → gd (el sg an i) (el sg an (i + 1))) (h2 : gd (el sg an (M - 1)) (el sg an 0)) (i : Nat) : gd (el sg an (i % M)) (el sg an ((i + 1) % M)) := by
  have := Nat.mod_lt i hM
  rcases Nat.lt_or_ge (i % M + 1) M with q | q
  · have e : (i + 1) % M = i % M + 1 := by
      rw [Nat.add_mod, Nat.mod_eq_of_lt (show 1 < M by omega), Nat.mod_eq_of_lt q]
    rw [e]; exact h1 _ q
  · have e0 : i % M = M - 1 := by omega
    have e : (i + 1) % M = 0 := by
      rcases Nat.lt_or_ge 1 M with q1 | q1
      · rw [Nat.add_mod, Nat.mod_eq_of_lt q1, show i % M + 1 = M from by omega, Nat.mod_self]
      · have : M = 1 := by omega
        subst this; exact Nat.mod_one _
    rw [e0, e]; exact h2
def bon (p s : Int32) : Int32 := if 0 < p ∧ s = -1 then 1 else 0
theorem w110 (fi : Int32) (aa bb dd : Int64) (ro : Nat) (rt : Nat → Int32) (db : Int32) (sg an : Nat → Int32) (mn : Nat) {M F : Nat} {Sg An : Nat → Int32} (h1 : (l_X8_wind_24 nw fi aa bb dd ro rt db sg an mn n (n + 1) 0 an rt sg 1 aa bb dd ro db 0).2.2.2.2.2.2.2.2.2 = M) (h2 : (l_X8_wind_24 nw fi aa bb dd ro rt db sg an mn n (n + 1) 0 an rt sg 1 aa bb dd ro db 0).2.2.1 = Sg) (h3 : (l_X8_wind_24 nw fi aa bb dd ro rt db sg an mn n (n + 1) 0 an rt sg 1 aa bb dd ro db 0).1 = An) (hF : l_X8_wind_61 nw fi aa bb dd ro rt db sg an mn n (M + 1) 0 = F) (hM : M < 2 ^ 30) (hFM : F < M) (hg : ∀ i, gd (el Sg An (i % M)) (el Sg An ((i + 1) % M))) (hin : ∀ i, i < M → Sg i = 0 ∨ Sg i = 1 ∨ Sg i = -1) (hnz : ¬ Sg F = 0) : ∀ (f ki : Nat) (z3 z4 z5 : Int32), 1 ≤ ki → ki ≤ M + 1 → M + 1 - ki + 1 ≤ f → ((¬ Sg ((F + (ki - 1)) % M) = 0 ∧ z3 = Sg ((F + (ki - 1)) % M) ∧ tsm Sg An M F (ki - 1) = z5) ∨ (Sg ((F + (ki - 1)) % M) = 0 ∧ (z3 = 1 ∨ z3 = -1) ∧ z4 = An ((F + (ki - 1)) % M) ∧ tsm Sg An M F (ki - 1) = z5 + bon z4 z3)) → (l_X8_wind_110 nw fi aa bb dd ro rt db sg an mn n f ki z3 z4 z5).2.2 = tsm Sg An M F M := by
  intro f
  induction f with
  | zero => intro ki z3 z4 z5 _ _ h; omega
  | succ f ih =>
    intro ki z3 z4 z5 k1 k2 k3 hI
    unfold l_X8_wind_110
    rw [h1, h2, h3, hF]
    rcases Nat.lt_or_ge M ki with q | q
    · have e : ki = M + 1 := by omega
      subst e
      rw [if_pos (nI_lt q (by omega))]
      have e2 : (F + (M + 1 - 1)) % M = F := by rw [show F + (M + 1 - 1) = F + M from by omega, Nat.add_mod_right, Nat.mod_eq_of_lt hFM]
      rw [e2] at hI
      rcases hI with ⟨_, _, c⟩ | ⟨a, _⟩
      · exact c.symm
      · exact absurd a hnz
    · rw [if_neg (nI_nlt q (by omega))]
      have hkk : ki = (ki - 1) + 1 := by omega
      have ts := tsm_s Sg An hFM (show ki - 1 < M by omega)
      rw [← hkk] at ts
      have g := hg (F + (ki - 1))
      have hat : F + (ki - 1) + 1 = F + ki := by omega
      rw [hat] at g
      have i1 := hin _ (Nat.mod_lt (F + ki) (show 0 < M by omega))
      have i0 := hin _ (Nat.mod_lt (F + (ki - 1)) (show 0 < M by omega))
      obtain ⟨ga, gb, _⟩ := g
      unfold el at ga gb ts
      dsimp only at ga gb
      have fin : ∀ (y3 y4 y5 : Int32), ((¬ Sg ((F + ki) % M) = 0 ∧ y3 = Sg ((F + ki) % M) ∧ tsm Sg An M F ki = y5) ∨ (Sg ((F + ki) % M) = 0 ∧ (y3 = 1 ∨ y3 = -1) ∧ y4 = An ((F + ki) % M) ∧ tsm Sg An M F ki = y5 + bon y4 y3)) → (l_X8_wind_110 nw fi aa bb dd ro rt db sg an mn n f (ki + 1) y3 y4 y5).2.2 = tsm Sg An M F M := fun y3 y4 y5 hh => ih (ki + 1) y3 y4 y5 (by omega) (by omega) (by omega) hh
      refine fin _ _ _ ?_
      generalize tsm Sg An M F ki = T1 at *
      generalize tsm Sg An M F (ki - 1) = T0 at *
      generalize Sg ((F + ki) % M) = s1 at *
      generalize Sg ((F + (ki - 1)) % M) = s0 at *
      generalize An ((F + ki) % M) = p1 at *
      generalize An ((F + (ki - 1)) % M) = p0 at *
      subst ts
      unfold adj
      dsimp only
      by_cases c1 : s1 = 0
      · right
        subst c1
        rw [if_pos rfl, if_pos rfl, if_pos rfl]
        rw [if_neg (show ¬ (s0 = 0 ∧ 0 < p0 ∧ (0 : Int32) = -1) from fun w => absurd w.2.2 (by decide)), Int32.sub_zero]
        rcases hI with ⟨a, b, c⟩ | ⟨a, b, c, d⟩
        · subst b; subst c
          refine ⟨rfl, i0.resolve_left a, rfl, ?_⟩
          congr 1
          unfold bon
          by_cases w : z3 = -1 ∧ (0 : Int32) = 0 ∧ 0 < p1
          · rw [if_pos w, if_pos ⟨w.2.2, w.1⟩]
          · rw [if_neg w, if_neg (fun v => w ⟨v.2, rfl, v.1⟩)]
        · subst a; subst c; subst d
          refine ⟨rfl, b, rfl, ?_⟩
          rw [if_neg (fun w => absurd w.1 (by decide)), Int32.add_zero]
          congr 1
          unfold bon
          have := gb rfl rfl
          by_cases w : 0 < z4 ∧ z3 = -1
          · rw [if_pos w, if_pos ⟨this.mp w.1, w.2⟩]
          · rw [if_neg w, if_neg (fun v => w ⟨this.mpr v.1, v.2⟩)]
      · left
        rw [if_neg c1, if_neg c1, if_neg (show ¬ (s0 = -1 ∧ s1 = 0 ∧ 0 < p1) from fun w => c1 w.2.1)]
        refine ⟨c1, rfl, ?_⟩
        rcases hI with ⟨a, b, c⟩ | ⟨a, b, c, d⟩
        · subst b; subst c
          have := ga a c1
          rw [if_pos this.symm, if_neg (fun w => a w.1), Int32.sub_self, Int32.add_zero]
        · subst a; subst c; subst d
          have i1 := i1.resolve_left c1
          by_cases w : 0 < z4
          · have w2 : ¬ z4 ≤ 0 := Int32.not_le.mpr w
            rw [if_neg w2]
            unfold bon
            rcases b with b | b <;> rcases i1 with c | c <;> subst b <;> subst c
            · rw [if_pos rfl, if_neg (fun v => absurd v.2 (by decide)), if_neg (fun v => absurd v.2.2 (by decide))]; grind
            · rw [if_neg (show ¬ (-1 : Int32) = 1 by decide), if_pos (show (-1 : Int32) ≤ 1 by decide), if_neg (fun v => absurd v.2 (by decide)), if_pos ⟨rfl, w, rfl⟩]; grind
            · rw [if_neg (show ¬ (1 : Int32) = -1 by decide), if_neg (show ¬ (1 : Int32) ≤ -1 by decide), if_pos ⟨w, rfl⟩, if_neg (fun v => absurd v.2.2 (by decide))]; grind
            · rw [if_pos rfl, if_pos ⟨w, rfl⟩, if_pos ⟨rfl, w, rfl⟩]; grind
          · have w2 : z4 ≤ 0 := Int32.not_lt.mp w
            rw [if_pos w2]
            unfold bon
            rw [if_neg (fun v => w v.1), if_neg (fun v => w v.2.1)]
            split <;> grind
theorem asm_0 {sg an : Nat → Int32} : ∀ (j : Nat), (∀ i, i ≤ j → sg i = 0) → asm sg an j = 0 := by
  intro j
  induction j with
  | zero => intro _; rfl
  | succ j ih =>
    intro h
    show asm sg an j + adj (el sg an j) (el sg an (j + 1)) = 0
    rw [ih (fun i hi => h i (by omega))]
    unfold adj el
    rw [h j (by omega), h (j + 1) (Nat.le_refl _)]
    rw [if_neg (fun w => absurd (show (0 : Int32) = -1 from w.1) (by decide)), if_neg (fun w => absurd (show (0 : Int32) = -1 from w.2.2) (by decide))]; rfl
theorem e_wind (h : RA fu fv xs ys n nw) (ax bx cx ay by_ cy_ : Int64) (fi : Int32) (aa bb dd : Int64) (ro : Nat) (rt : Nat → Int32) (db : Int32) (sg an : Nat → Int32) (mn : Nat) : (f_X7_wind fu fv xs ys n ax bx cx ay by_ cy_ fi).1 = (f_X8_wind nw fi aa bb dd ro rt db sg an mn n).1 ∧ (f_X7_wind fu fv xs ys n ax bx cx ay by_ cy_ fi).2.1 = (f_X8_wind nw fi aa bb dd ro rt db sg an mn n).2.1 := by
  have hn8 := h.2.2.1
  unfold f_X7_wind f_X8_wind
  by_cases g : 2 ≤ nI n
  · rw [if_pos g, if_pos g]
    have hn : 2 ≤ n := (nI_leI (a := 2) (by decide) (by omega)).mp g
    have key : ((l_X7_wind_22 fu fv xs ys n ax bx cx ay by_ cy_ fi (n + 1) 0 0 ax bx cx ay by_ cy_).1 = -1000007 ∧ (l_X7_wind_22 fu fv xs ys n ax bx cx ay by_ cy_ fi (n + 1) 0 0 ax bx cx ay by_ cy_).2.1 = fi + 1 ∧ (l_X8_wind_24 nw fi aa bb dd ro rt db sg an mn n (n + 1) 0 an rt sg 1 aa bb dd ro db 0).2.2.2.1 = 0) ∨ ((l_X7_wind_22 fu fv xs ys n ax bx cx ay by_ cy_ fi (n + 1) 0 0 ax bx cx ay by_ cy_).2.1 = fi ∧ ¬ (l_X8_wind_24 nw fi aa bb dd ro rt db sg an mn n (n + 1) 0 an rt sg 1 aa bb dd ro db 0).2.2.2.1 = 0 ∧ WI (l_X8_wind_24 nw fi aa bb dd ro rt db sg an mn n (n + 1) 0 an rt sg 1 aa bb dd ro db 0).2.2.1 (l_X8_wind_24 nw fi aa bb dd ro rt db sg an mn n (n + 1) 0 an rt sg 1 aa bb dd ro db 0).1 (l_X8_wind_24 nw fi aa bb dd ro rt db sg an mn n (n + 1) 0 an rt sg 1 aa bb dd ro db 0).2.2.2.2.2.2.2.2.2 (l_X7_wind_22 fu fv xs ys n ax bx cx ay by_ cy_ fi (n + 1) 0 0 ax bx cx ay by_ cy_).1 (sgI (cy0 fv xs ys n)) (sgI (cy0 fu xs ys n)) (hdS (sgI (cy0 fv xs ys 0)) (sgI (cy0 fu xs ys 0))) (6 * n)) := by
      unfold l_X7_wind_22 l_X8_wind_24
      have hc : ¬ nI n ≤ nI 0 := nI_ge (by omega) (by omega)
      rw [if_neg hc, if_neg hc, if_neg (show ¬ (1 : Int32) = 0 by decide)]
      rcases pc_ps h (show 0 < n by omega) aa bb dd ro rt db sg an 0 with ⟨b1, b2⟩ | ⟨b1, b2, tl, b3, b4, b5, b6, b7, b8⟩
      · left
        have b1 : ¬ f_X4_meetsZeroOf ((f_X7_followSpeeds fu fv xs ys 0).2.2.2.1) ((f_X7_followSpeeds fu fv xs ys 0).2.2.2.2.1) ((f_X7_followSpeeds fu fv xs ys 0).2.2.2.2.2) ((f_X7_followSpeeds fu fv xs ys 0).1) ((f_X7_followSpeeds fu fv xs ys 0).2.1) ((f_X7_followSpeeds fu fv xs ys 0).2.2.1) = 0 := b1
        rw [if_neg b1]
        exact ⟨rfl, rfl, w24_0 _ _ _ _ _ _ _ _ _ _ _ _ _ _ _ _ _ _ _ _ _ b2⟩
      · have b1 : f_X4_meetsZeroOf ((f_X7_followSpeeds fu fv xs ys 0).2.2.2.1) ((f_X7_followSpeeds fu fv xs ys 0).2.2.2.2.1) ((f_X7_followSpeeds fu fv xs ys 0).2.2.2.2.2) ((f_X7_followSpeeds fu fv xs ys 0).1) ((f_X7_followSpeeds fu fv xs ys 0).2.1) ((f_X7_followSpeeds fu fv xs ys 0).2.2.1) = 0 := b1
        rw [if_pos b1, b2]
        have st := wi_first b3 b4 b5 b6 b7 b8
        exact wl h ax bx cx ay by_ cy_ fi aa bb dd ro rt db sg an mn n (0 + 1) _ _ _ _ _ _ _ _ _ _ _ _ _ _ _ _ (by omega) (by omega) st
    have wq := w61 (nw := nw) (n := n) fi aa bb dd ro rt db sg an mn rfl rfl (M := (l_X8_wind_24 nw fi aa bb dd ro rt db sg an mn n (n + 1) 0 an rt sg 1 aa bb dd ro db 0).2.2.2.2.2.2.2.2.2) (Sg := (l_X8_wind_24 nw fi aa bb dd ro rt db sg an mn n (n + 1) 0 an rt sg 1 aa bb dd ro db 0).2.2.1)
    have wt := w110 (nw := nw) (n := n) fi aa bb dd ro rt db sg an mn (M := (l_X8_wind_24 nw fi aa bb dd ro rt db sg an mn n (n + 1) 0 an rt sg 1 aa bb dd ro db 0).2.2.2.2.2.2.2.2.2) (Sg := (l_X8_wind_24 nw fi aa bb dd ro rt db sg an mn n (n + 1) 0 an rt sg 1 aa bb dd ro db 0).2.2.1) (An := (l_X8_wind_24 nw fi aa bb dd ro rt db sg an mn n (n + 1) 0 an rt sg 1 aa bb dd ro db 0).1) (F := l_X8_wind_61 nw fi aa bb dd ro rt db sg an mn n ((l_X8_wind_24 nw fi aa bb dd ro rt db sg an mn n (n + 1) 0 an rt sg 1 aa bb dd ro db 0).2.2.2.2.2.2.2.2.2 + 1) 0) rfl rfl rfl rfl
    rcases key with ⟨a, b, c⟩ | ⟨a, b, c⟩
    · rw [if_pos c]; exact ⟨a, b⟩
    · rw [if_neg b]
      obtain ⟨i1, i2, i3, i4, i5, i6, i7⟩ := c
      generalize (l_X8_wind_24 nw fi aa bb dd ro rt db sg an mn n (n + 1) 0 an rt sg 1 aa bb dd ro db 0).2.2.2.2.2.2.2.2.2 = M at *
      generalize (l_X8_wind_24 nw fi aa bb dd ro rt db sg an mn n (n + 1) 0 an rt sg 1 aa bb dd ro db 0).2.2.1 = Sg at *
      generalize (l_X8_wind_24 nw fi aa bb dd ro rt db sg an mn n (n + 1) 0 an rt sg 1 aa bb dd ro db 0).1 = An at *
      have e0 : cy0 fv xs ys n = cy0 fv xs ys 0 ∧ cy0 fu xs ys n = cy0 fu xs ys 0 := by
        unfold cy0
        rw [(h.2.2.2.2 (by omega)).1, (h.2.2.2.2 (by omega)).2]
        exact ⟨rfl, rfl⟩
      rw [e0.1, e0.2] at i3
      rw [e0.1] at i5
      rw [e0.2] at i6
      obtain ⟨j1, j2⟩ := jn i5 i6
      rw [j1, ← i4] at i3
      rw [← i4] at j2
      have hM : M < 2 ^ 30 := by omega
      have gc := gd_cy i1 i2 j2
      have hin : ∀ i, i < M → Sg i = 0 ∨ Sg i = 1 ∨ Sg i = -1 := by
        intro i hi
        rcases Nat.eq_zero_or_pos i with e | e
        · subst e
          exact j2.2.2
        · have := (i2 (i - 1) (by omega)).2.2
          rw [show i - 1 + 1 = i from by omega] at this
          exact this
      rcases wq hM (M + 1) 0 (Nat.zero_le _) (Nat.le_refl _) (fun i hi => absurd hi (Nat.not_lt_zero _)) with ⟨u1, u2⟩ | ⟨u1, u2⟩
      · rw [u1, if_pos rfl]
        refine ⟨?_, a⟩
        rw [i3, asm_0 (M - 1) (fun i hi => u2 i (by omega))]
        unfold adj el
        rw [u2 (M - 1) (by omega), u2 0 i1, if_neg (fun w => absurd (show (0 : Int32) = -1 from w.1) (by decide)), if_neg (fun w => absurd (show (0 : Int32) = -1 from w.2.2) (by decide))]; rfl
      · have ne : ¬ nI (l_X8_wind_61 nw fi aa bb dd ro rt db sg an mn n (M + 1) 0) = nI M := fun w => by
          have := (nI_eq (by omega) (by omega)).mp w; omega
        rw [if_neg ne]
        refine ⟨?_, a⟩
        generalize hF : l_X8_wind_61 nw fi aa bb dd ro rt db sg an mn n (M + 1) 0 = F at *
        have t := wt hM u1 gc hin u2 (M + 1 - 1 + 1) 1 (Sg F) 0 0 (by decide) (by omega) (by omega) (Or.inl (by
          rw [show (F + (1 - 1)) % M = F from by rw [Nat.sub_self, Nat.add_zero, Nat.mod_eq_of_lt u1]]
          refine ⟨u2, rfl, ?_⟩
          unfold tsm
          rw [if_pos (by omega), show F + (1 - 1) = F from by omega, Int32.sub_self]))
        rw [t, i3]
        unfold tsm
        rw [if_neg (by omega), show F + M - M = F from by omega]
        grind
  · rw [if_neg g, if_neg g]; exact ⟨rfl, rfl⟩
end WLOOP
