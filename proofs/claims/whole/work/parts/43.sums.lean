/-! boxes, the edge, sums -/
def mnI (x y : Int32) : Int32 := if y < x then y else x
def mxI (x y : Int32) : Int32 := if x < y then y else x
theorem mnI_0 (x y : Int32) : (mnI x y < 0) ↔ (x < 0 ∨ y < 0) := by
  unfold mnI
  by_cases h : y < x
  · rw [if_pos h]
    simp only [Int32.lt_iff_toInt_lt] at h ⊢
    omega
  · rw [if_neg h]
    simp only [Int32.lt_iff_toInt_lt] at h ⊢
    omega
theorem mxI_0 (x y : Int32) : (0 < mxI x y) ↔ (0 < x ∨ 0 < y) := by
  unfold mxI
  by_cases h : x < y
  · rw [if_pos h]
    simp only [Int32.lt_iff_toInt_lt] at h ⊢
    omega
  · rw [if_neg h]
    simp only [Int32.lt_iff_toInt_lt] at h ⊢
    omega
def nnC (lo hi : Int32) : Int32 := if lo < 0 then (if 0 < hi then 0 else (if 0 ≤ lo then 0 else -1)) else (if hi ≤ 0 then (if 0 < hi then 0 else (if 0 ≤ lo then 0 else -1)) else 1)
def nnM (ab be : Int32) : Int32 := if ab ≤ 0 then (if be ≤ 0 then 0 else (if ab = 0 then -1 else 0)) else (if be = 0 then 1 else (if be ≤ 0 then 0 else (if ab = 0 then -1 else 0)))
def nnS (a b c d e f g h : Int32) : Int32 := nnM ((((0 + a) + b) + c) + d) ((((0 + e) + f) + g) + h)
def nnT (a b c d e f g h : Int32) : Int32 := if ¬ (e = 0 ∧ f = 0 ∧ g = 0 ∧ h = 0) then (if ¬ (a = 0 ∧ b = 0 ∧ c = 0 ∧ d = 0) then 0 else -1) else (if a = 0 ∧ b = 0 ∧ c = 0 ∧ d = 0 then 0 else 1)
theorem nnST {a b c d e f g h : Int32} (ha : a = 0 ∨ a = 1) (hb : b = 0 ∨ b = 1) (hc : c = 0 ∨ c = 1) (hd : d = 0 ∨ d = 1) (he : e = 0 ∨ e = 1) (hf : f = 0 ∨ f = 1) (hg : g = 0 ∨ g = 1) (hh : h = 0 ∨ h = 1) : nnS a b c d e f g h = nnT a b c d e f g h := by
  rcases ha with e1 | e1 <;> rcases hb with e2 | e2 <;> rcases hc with e3 | e3 <;> rcases hd with e4 | e4 <;> rcases he with e5 | e5 <;> rcases hf with e6 | e6 <;> rcases hg with e7 | e7 <;> rcases hh with e8 | e8 <;> subst e1 <;> subst e2 <;> subst e3 <;> subst e4 <;> subst e5 <;> subst e6 <;> subst e7 <;> subst e8 <;> decide
theorem p01 (v : Int32) : ((if v ≤ 0 then 0 else 1 : Int32) = 0 ∨ (if v ≤ 0 then 0 else 1 : Int32) = 1) ∧ ((if v ≤ 0 then 0 else 1 : Int32) = 0 ↔ ¬ 0 < v) := by
  by_cases h : v ≤ 0
  · rw [if_pos h]; exact ⟨Or.inl rfl, fun _ => Int32.not_lt.mpr h, fun _ => rfl⟩
  · rw [if_neg h]; exact ⟨Or.inr rfl, fun q => absurd q (by decide), fun q => absurd (Int32.not_le.mp h) q⟩
theorem q01 (v : Int32) : ((if 0 ≤ v then 0 else 1 : Int32) = 0 ∨ (if 0 ≤ v then 0 else 1 : Int32) = 1) ∧ ((if 0 ≤ v then 0 else 1 : Int32) = 0 ↔ ¬ v < 0) := by
  by_cases h : 0 ≤ v
  · rw [if_pos h]; exact ⟨Or.inl rfl, fun _ => Int32.not_lt.mpr h, fun _ => rfl⟩
  · rw [if_neg h]; exact ⟨Or.inr rfl, fun q => absurd q (by decide), fun q => absurd (Int32.not_le.mp h) q⟩
theorem nn_eq (ab ad cb cd : Int32) : nnC (mnI (mnI ab ad) (mnI cb cd)) (mxI (mxI ab ad) (mxI cb cd)) = nnM ((((0 + (if ab ≤ 0 then 0 else 1)) + (if cb ≤ 0 then 0 else 1)) + (if ad ≤ 0 then 0 else 1)) + (if cd ≤ 0 then 0 else 1)) ((((0 + (if 0 ≤ ab then 0 else 1)) + (if 0 ≤ cb then 0 else 1)) + (if 0 ≤ ad then 0 else 1)) + (if 0 ≤ cd then 0 else 1)) := by
  have L : (mnI (mnI ab ad) (mnI cb cd) < 0) ↔ (ab < 0 ∨ ad < 0) ∨ (cb < 0 ∨ cd < 0) := by rw [mnI_0, mnI_0, mnI_0]
  have H : (0 < mxI (mxI ab ad) (mxI cb cd)) ↔ (0 < ab ∨ 0 < ad) ∨ (0 < cb ∨ 0 < cd) := by rw [mxI_0, mxI_0, mxI_0]
  generalize mnI (mnI ab ad) (mnI cb cd) = lo at *
  generalize mxI (mxI ab ad) (mxI cb cd) = hi at *
  have s := nnST (p01 ab).1 (p01 cb).1 (p01 ad).1 (p01 cd).1 (q01 ab).1 (q01 cb).1 (q01 ad).1 (q01 cd).1
  unfold nnS at s
  rw [s]
  unfold nnT
  have z1 : ((if 0 ≤ ab then 0 else 1 : Int32) = 0 ∧ (if 0 ≤ cb then 0 else 1 : Int32) = 0 ∧ (if 0 ≤ ad then 0 else 1 : Int32) = 0 ∧ (if 0 ≤ cd then 0 else 1 : Int32) = 0) ↔ ¬ lo < 0 := by
    rw [(q01 ab).2, (q01 cb).2, (q01 ad).2, (q01 cd).2, L]
    constructor
    · rintro ⟨a, b, c, d⟩ ((q | q) | (q | q))
      · exact a q
      · exact c q
      · exact b q
      · exact d q
    · intro q
      exact ⟨fun w => q (Or.inl (Or.inl w)), fun w => q (Or.inr (Or.inl w)), fun w => q (Or.inl (Or.inr w)), fun w => q (Or.inr (Or.inr w))⟩
  have z2 : ((if ab ≤ 0 then 0 else 1 : Int32) = 0 ∧ (if cb ≤ 0 then 0 else 1 : Int32) = 0 ∧ (if ad ≤ 0 then 0 else 1 : Int32) = 0 ∧ (if cd ≤ 0 then 0 else 1 : Int32) = 0) ↔ ¬ 0 < hi := by
    rw [(p01 ab).2, (p01 cb).2, (p01 ad).2, (p01 cd).2, H]
    constructor
    · rintro ⟨a, b, c, d⟩ ((q | q) | (q | q))
      · exact a q
      · exact c q
      · exact b q
      · exact d q
    · intro q
      exact ⟨fun w => q (Or.inl (Or.inl w)), fun w => q (Or.inr (Or.inl w)), fun w => q (Or.inl (Or.inr w)), fun w => q (Or.inr (Or.inr w))⟩
  have l0 : (0 ≤ lo) ↔ ¬ lo < 0 := Int32.not_lt.symm
  have h0 : (hi ≤ 0) ↔ ¬ 0 < hi := Int32.not_lt.symm
  unfold nnC
  simp only [z1, z2, l0, h0]
  by_cases a : lo < 0 <;> by_cases b : 0 < hi <;> simp [a, b]
section SUMS
variable {fu fv xs ys : Nat → Int32} {n : Nat} {nw : Nat → Int32}
theorem e_none (h : RA fu fv xs ys n nw) (fi pa pb pc_ pd : Int32) : f_X7_none fu fv fi pa pb pc_ pd = f_X8_none nw fi pa pb pc_ pd := by
  unfold f_X7_none f_X8_none
  rw [e_plc, e_plc, e_none4 h]
  by_cases g1 : f_X7_isPlace pa pb = 0
  · rw [if_pos g1, if_pos g1]; rfl
  rw [if_neg g1, if_neg g1]
  by_cases g2 : f_X7_isPlace pc_ pd = 0
  · rw [if_pos g2, if_pos g2]; rfl
  rw [if_neg g2, if_neg g2]
  by_cases g3 : pc_ ≤ pa
  · rw [if_pos g3, if_pos g3]; rfl
  rw [if_neg g3, if_neg g3]
  by_cases g4 : pb < pd
  · rw [if_pos g4, if_pos g4]
    have q := nn_eq (f_X1_spreadAt fu fv pa pb) (f_X1_spreadAt fu fv pa pd) (f_X1_spreadAt fu fv pc_ pb) (f_X1_spreadAt fu fv pc_ pd)
    have r := congrArg (fun v => (v, fi)) q
    refine Eq.trans ?_ r
    show _ = (nnC (mnI (mnI (f_X1_spreadAt fu fv pa pb) (f_X1_spreadAt fu fv pa pd)) (mnI (f_X1_spreadAt fu fv pc_ pb) (f_X1_spreadAt fu fv pc_ pd))) (mxI (mxI (f_X1_spreadAt fu fv pa pb) (f_X1_spreadAt fu fv pa pd)) (mxI (f_X1_spreadAt fu fv pc_ pb) (f_X1_spreadAt fu fv pc_ pd))), fi)
    unfold nnC
    show (if mnI (mnI (f_X1_spreadAt fu fv pa pb) (f_X1_spreadAt fu fv pa pd)) (mnI (f_X1_spreadAt fu fv pc_ pb) (f_X1_spreadAt fu fv pc_ pd)) < 0 then _ else (if mxI (mxI (f_X1_spreadAt fu fv pa pb) (f_X1_spreadAt fu fv pa pd)) (mxI (f_X1_spreadAt fu fv pc_ pb) (f_X1_spreadAt fu fv pc_ pd)) ≤ 0 then _ else _)) = _
    split
    · rfl
    · split
      · rfl
      · rfl
  · rw [if_neg g4, if_neg g4]; rfl
theorem lgc_0 (x y : Int64) : (lg_cmp x y = 0) ↔ x.toInt = y.toInt := by
  unfold lg_cmp
  by_cases h1 : x > y
  · rw [if_pos h1]
    have := Int64.lt_iff_toInt_lt.mp h1
    exact ⟨fun q => absurd q (by decide), fun q => by omega⟩
  · rw [if_neg h1]
    by_cases h2 : x = y
    · rw [if_pos h2]; exact ⟨fun _ => by rw [h2], fun _ => rfl⟩
    · rw [if_neg h2]; exact ⟨fun q => absurd q (by decide), fun q => absurd (Int64.toInt_inj.mp q) h2⟩
theorem i32_0 {x : Int32} {X M : Int} (h : x.toInt = X ∧ bd x M) : (x = 0) ↔ X = 0 := by
  rw [← h.1]
  exact ⟨fun q => by rw [q]; rfl, fun q => Int32.toInt_inj.mp (by rw [q]; rfl)⟩
theorem i32_l {x : Int32} {X M : Int} (h : x.toInt = X ∧ bd x M) : (x ≤ 0) ↔ X ≤ 0 := by
  rw [← h.1, Int32.le_iff_toInt_le]; rfl
theorem i32_e {x y : Int32} {X Y M N : Int} (h : x.toInt = X ∧ bd x M) (g : y.toInt = Y ∧ bd y N) : (x = y) ↔ X = Y := by
  rw [← h.1, ← g.1]
  exact ⟨fun q => by rw [q], fun q => Int32.toInt_inj.mp q⟩
theorem l64_0 {x : Int64} {X M : Int} (h : x.toInt = X ∧ bl x M) : (lg_cmp x 0 = 0) ↔ X = 0 := by
  rw [lgc_0, h.1]; rfl
theorem l64_l {x : Int64} {X M : Int} (h : x.toInt = X ∧ bl x M) : (lg_cmp x 0 ≤ 0) ↔ X ≤ 0 := by
  rw [lgc_le, h.1]; rfl
theorem l64_e {x y : Int64} {X Y M N : Int} (h : x.toInt = X ∧ bl x M) (g : y.toInt = Y ∧ bl y N) : (lg_cmp x y = 0) ↔ X = Y := by
  rw [lgc_0, h.1, g.1]
theorem ic {c M : Int} (x : Int32) (h : x.toInt = c) (h1 : -M ≤ c) (h2 : c ≤ M) : x.toInt = c ∧ bd x M := ⟨h, by unfold bd; rw [h]; exact ⟨h1, h2⟩⟩
theorem lc {c M : Int} (x : Int64) (h : x.toInt = c) (h1 : -M ≤ c) (h2 : c ≤ M) : x.toInt = c ∧ bl x M := ⟨h, by unfold bl; rw [h]; exact ⟨h1, h2⟩⟩
def edI (A B C D E : Int) : Int32 := if A = 0 ∧ B = 0 ∧ C = 0 ∧ D = 0 then 4 else (if E = 0 then (if B * B = 3 * A * C ∧ C * C = 3 * B * D ∧ B * C = 9 * A * D then 1 else 2) else (if E ≤ 0 then 1 else 3))
def edM (wp wq wr_ ws_ : Int64) : Int32 := (if (lg_cmp wp 0) = 0 then (if (lg_cmp wq 0) = 0 then (if (lg_cmp wr_ 0) = 0 then (if (lg_cmp ws_ 0) = 0 then 4 else (if (lg_cmp ((((((((18 * wp) * wq) * wr_) * ws_) - ((((4 * wq) * wq) * wq) * ws_)) + (((wq * wq) * wr_) * wr_)) - ((((4 * wp) * wr_) * wr_) * wr_)) - ((((27 * wp) * wp) * ws_) * ws_)) 0) = 0 then (if (lg_cmp (wq * wq) ((3 * wp) * wr_)) = 0 then (if (lg_cmp (wq * wr_) ((9 * wp) * ws_)) = 0 then (if (lg_cmp (wr_ * wr_) ((3 * wq) * ws_)) = 0 then 1 else 2) else 2) else 2) else (if (lg_cmp ((((((((18 * wp) * wq) * wr_) * ws_) - ((((4 * wq) * wq) * wq) * ws_)) + (((wq * wq) * wr_) * wr_)) - ((((4 * wp) * wr_) * wr_) * wr_)) - ((((27 * wp) * wp) * ws_) * ws_)) 0) ≤ 0 then 1 else 3))) else (if (lg_cmp ((((((((18 * wp) * wq) * wr_) * ws_) - ((((4 * wq) * wq) * wq) * ws_)) + (((wq * wq) * wr_) * wr_)) - ((((4 * wp) * wr_) * wr_) * wr_)) - ((((27 * wp) * wp) * ws_) * ws_)) 0) = 0 then (if (lg_cmp (wq * wq) ((3 * wp) * wr_)) = 0 then (if (lg_cmp (wq * wr_) ((9 * wp) * ws_)) = 0 then (if (lg_cmp (wr_ * wr_) ((3 * wq) * ws_)) = 0 then 1 else 2) else 2) else 2) else (if (lg_cmp ((((((((18 * wp) * wq) * wr_) * ws_) - ((((4 * wq) * wq) * wq) * ws_)) + (((wq * wq) * wr_) * wr_)) - ((((4 * wp) * wr_) * wr_) * wr_)) - ((((27 * wp) * wp) * ws_) * ws_)) 0) ≤ 0 then 1 else 3))) else (if (lg_cmp ((((((((18 * wp) * wq) * wr_) * ws_) - ((((4 * wq) * wq) * wq) * ws_)) + (((wq * wq) * wr_) * wr_)) - ((((4 * wp) * wr_) * wr_) * wr_)) - ((((27 * wp) * wp) * ws_) * ws_)) 0) = 0 then (if (lg_cmp (wq * wq) ((3 * wp) * wr_)) = 0 then (if (lg_cmp (wq * wr_) ((9 * wp) * ws_)) = 0 then (if (lg_cmp (wr_ * wr_) ((3 * wq) * ws_)) = 0 then 1 else 2) else 2) else 2) else (if (lg_cmp ((((((((18 * wp) * wq) * wr_) * ws_) - ((((4 * wq) * wq) * wq) * ws_)) + (((wq * wq) * wr_) * wr_)) - ((((4 * wp) * wr_) * wr_) * wr_)) - ((((27 * wp) * wp) * ws_) * ws_)) 0) ≤ 0 then 1 else 3))) else (if (lg_cmp ((((((((18 * wp) * wq) * wr_) * ws_) - ((((4 * wq) * wq) * wq) * ws_)) + (((wq * wq) * wr_) * wr_)) - ((((4 * wp) * wr_) * wr_) * wr_)) - ((((27 * wp) * wp) * ws_) * ws_)) 0) = 0 then (if (lg_cmp (wq * wq) ((3 * wp) * wr_)) = 0 then (if (lg_cmp (wq * wr_) ((9 * wp) * ws_)) = 0 then (if (lg_cmp (wr_ * wr_) ((3 * wq) * ws_)) = 0 then 1 else 2) else 2) else 2) else (if (lg_cmp ((((((((18 * wp) * wq) * wr_) * ws_) - ((((4 * wq) * wq) * wq) * ws_)) + (((wq * wq) * wr_) * wr_)) - ((((4 * wp) * wr_) * wr_) * wr_)) - ((((27 * wp) * wp) * ws_) * ws_)) 0) ≤ 0 then 1 else 3)))
theorem ed7 {xa xb xc xd : Int32} {A B C D : Int} (ha : xa.toInt = A ∧ bd xa 4) (hb : xb.toInt = B ∧ bd xb 8) (hc : xc.toInt = C ∧ bd xc 8) (hd : xd.toInt = D ∧ bd xd 4) : f_X7_linesOfCubic xa xb xc xd = edI A B C D (B * B * C * C - 4 * A * C * C * C - 4 * B * B * B * D - 27 * A * A * D * D + 18 * A * B * C * D) := by
  have k4 := ic (M := 4) 4 (c := 4) rfl (by decide) (by decide)
  have k27 := ic (M := 27) 27 (c := 27) rfl (by decide) (by decide)
  have k18 := ic (M := 18) 18 (c := 18) rfl (by decide) (by decide)
  have k3 := ic (M := 3) 3 (c := 3) rfl (by decide) (by decide)
  have k9 := ic (M := 9) 9 (c := 9) rfl (by decide) (by decide)
  have hE := addI (subI (subI (subI (mulI (mulI (mulI hb hb (by decide)) hc (by decide)) hc (by decide)) (mulI (mulI (mulI (mulI k4 ha (by decide)) hc (by decide)) hc (by decide)) hc (by decide)) (by decide)) (mulI (mulI (mulI (mulI k4 hb (by decide)) hb (by decide)) hb (by decide)) hd (by decide)) (by decide)) (mulI (mulI (mulI (mulI k27 ha (by decide)) ha (by decide)) hd (by decide)) hd (by decide)) (by decide)) (mulI (mulI (mulI (mulI k18 ha (by decide)) hb (by decide)) hc (by decide)) hd (by decide)) (by decide)
  unfold f_X7_linesOfCubic
  simp only [i32_0 ha, i32_0 hb, i32_0 hc, i32_0 hd, i32_0 hE, i32_l hE, i32_e (mulI hb hb (by decide)) (mulI (mulI k3 ha (by decide)) hc (by decide)), i32_e (mulI hc hc (by decide)) (mulI (mulI k3 hb (by decide)) hd (by decide)), i32_e (mulI hb hc (by decide)) (mulI (mulI k9 ha (by decide)) hd (by decide))]
  generalize B * B * C * C - 4 * A * C * C * C - 4 * B * B * B * D - 27 * A * A * D * D + 18 * A * B * C * D = E
  unfold edI
  generalize B * B = b2
  generalize 3 * A * C = e1
  generalize C * C = c2
  generalize 3 * B * D = e2
  generalize B * C = b3
  generalize 9 * A * D = e3
  by_cases a : A = 0 <;> by_cases b : B = 0 <;> by_cases c : C = 0 <;> by_cases d : D = 0 <;> by_cases e : E = 0 <;> by_cases p : b2 = e1 <;> by_cases q : c2 = e2 <;> by_cases r : b3 = e3 <;> simp [a, b, c, d, e, p, q, r]
theorem ed8 {xa xb xc xd : Int64} {A B C D : Int} (wa : xa.toInt = A ∧ bl xa 4) (wb : xb.toInt = B ∧ bl xb 8) (wc : xc.toInt = C ∧ bl xc 8) (wd : xd.toInt = D ∧ bl xd 4) : edM xa xb xc xd = edI A B C D (B * B * C * C - 4 * A * C * C * C - 4 * B * B * B * D - 27 * A * A * D * D + 18 * A * B * C * D) := by
  have m4 := lc (M := 4) 4 (c := 4) rfl (by decide) (by decide)
  have m27 := lc (M := 27) 27 (c := 27) rfl (by decide) (by decide)
  have m18 := lc (M := 18) 18 (c := 18) rfl (by decide) (by decide)
  have m3 := lc (M := 3) 3 (c := 3) rfl (by decide) (by decide)
  have m9 := lc (M := 9) 9 (c := 9) rfl (by decide) (by decide)
  have wE := subL (subL (addL (subL (mulL (mulL (mulL (mulL m18 wa (by decide)) wb (by decide)) wc (by decide)) wd (by decide)) (mulL (mulL (mulL (mulL m4 wb (by decide)) wb (by decide)) wb (by decide)) wd (by decide)) (by decide)) (mulL (mulL (mulL wb wb (by decide)) wc (by decide)) wc (by decide)) (by decide)) (mulL (mulL (mulL (mulL m4 wa (by decide)) wc (by decide)) wc (by decide)) wc (by decide)) (by decide)) (mulL (mulL (mulL (mulL m27 wa (by decide)) wa (by decide)) wd (by decide)) wd (by decide)) (by decide)
  have eE : 18 * A * B * C * D - 4 * B * B * B * D + B * B * C * C - 4 * A * C * C * C - 27 * A * A * D * D = B * B * C * C - 4 * A * C * C * C - 4 * B * B * B * D - 27 * A * A * D * D + 18 * A * B * C * D := by grind
  rw [eE] at wE
  unfold edM
  simp only [l64_0 wa, l64_0 wb, l64_0 wc, l64_0 wd, l64_0 wE, l64_l wE, l64_e (mulL wb wb (by decide)) (mulL (mulL m3 wa (by decide)) wc (by decide)), l64_e (mulL wc wc (by decide)) (mulL (mulL m3 wb (by decide)) wd (by decide)), l64_e (mulL wb wc (by decide)) (mulL (mulL m9 wa (by decide)) wd (by decide))]
  generalize B * B * C * C - 4 * A * C * C * C - 4 * B * B * B * D - 27 * A * A * D * D + 18 * A * B * C * D = E
  unfold edI
  generalize B * B = b2
  generalize 3 * A * C = e1
  generalize C * C = c2
  generalize 3 * B * D = e2
  generalize B * C = b3
  generalize 9 * A * D = e3
  by_cases a : A = 0 <;> by_cases b : B = 0 <;> by_cases c : C = 0 <;> by_cases d : D = 0 <;> by_cases e : E = 0 <;> by_cases p : b2 = e1 <;> by_cases q : c2 = e2 <;> by_cases r : b3 = e3 <;> simp [a, b, c, d, e, p, q, r]
theorem e_edge (h : RA fu fv xs ys n nw) : f_X7_edge fu fv = f_X8_edge nw := by
  have N : ∀ j, j < 6 → nw j = fu j ∧ nw (6 + j) = fv j ∧ bd (fu j) 4 ∧ bd (fv j) 4 := h.1
  have f0 : f_X8_form nw 0 = (fv 3).toInt64 := by unfold f_X8_form; rw [if_pos rfl, e_get1, (N 3 (by decide)).2.1]
  have f1 : f_X8_form nw 1 = (fv 4 - fu 3).toInt64 := by unfold f_X8_form; rw [if_neg (by decide), if_pos rfl, e_get1, e_get0, (N 4 (by decide)).2.1, (N 3 (by decide)).1]
  have f2 : f_X8_form nw 2 = (fv 5 - fu 4).toInt64 := by unfold f_X8_form; rw [if_neg (by decide), if_neg (by decide), if_pos rfl, e_get1, e_get0, (N 5 (by decide)).2.1, (N 4 (by decide)).1]
  have f3 : f_X8_form nw 3 = (-(fu 5)).toInt64 := by unfold f_X8_form; rw [if_neg (by decide), if_neg (by decide), if_neg (by decide), e_get0, (N 5 (by decide)).1]
  have ha : (fv 3).toInt = (fv 3).toInt ∧ bd (fv 3) 4 := ⟨rfl, (N 3 (by decide)).2.2.2⟩
  have hb := subI (⟨rfl, (N 4 (by decide)).2.2.2⟩ : (fv 4).toInt = (fv 4).toInt ∧ bd (fv 4) 4) (⟨rfl, (N 3 (by decide)).2.2.1⟩ : (fu 3).toInt = (fu 3).toInt ∧ bd (fu 3) 4) (by decide)
  have hc := subI (⟨rfl, (N 5 (by decide)).2.2.2⟩ : (fv 5).toInt = (fv 5).toInt ∧ bd (fv 5) 4) (⟨rfl, (N 4 (by decide)).2.2.1⟩ : (fu 4).toInt = (fu 4).toInt ∧ bd (fu 4) 4) (by decide)
  have hd := negI (⟨rfl, (N 5 (by decide)).2.2.1⟩ : (fu 5).toInt = (fu 5).toInt ∧ bd (fu 5) 4) (by decide)
  have e8 : f_X8_edge nw = edM (f_X8_form nw 0) (f_X8_form nw 1) (f_X8_form nw 2) (f_X8_form nw 3) := rfl
  rw [e8, f0, f1, f2, f3, ed8 (wideI ha) (wideI hb) (wideI hc) (wideI hd)]
  exact ed7 ha hb hc hd
theorem e_far (h : RA fu fv xs ys n nw) (fi px py : Int32) : f_X7_far fu fv fi px py = f_X8_far nw fi px py := by
  unfold f_X7_far f_X8_far
  rw [e_plc]
  by_cases g1 : f_X7_isPlace px py = 0
  · rw [if_pos g1, if_pos g1]; rfl
  rw [if_neg g1, if_neg g1]
  have N : ∀ j, j < 6 → nw j = fu j ∧ nw (6 + j) = fv j ∧ bd (fu j) 4 ∧ bd (fv j) 4 := h.1
  have hb := bd_plc g1
  have f0 : f_X8_form nw 0 = (fv 3).toInt64 := by unfold f_X8_form; rw [if_pos rfl, e_get1, (N 3 (by decide)).2.1]
  have f1 : f_X8_form nw 1 = (fv 4 - fu 3).toInt64 := by unfold f_X8_form; rw [if_neg (by decide), if_pos rfl, e_get1, e_get0, (N 4 (by decide)).2.1, (N 3 (by decide)).1]
  have f2 : f_X8_form nw 2 = (fv 5 - fu 4).toInt64 := by unfold f_X8_form; rw [if_neg (by decide), if_neg (by decide), if_pos rfl, e_get1, e_get0, (N 5 (by decide)).2.1, (N 4 (by decide)).1]
  have f3 : f_X8_form nw 3 = (-(fu 5)).toInt64 := by unfold f_X8_form; rw [if_neg (by decide), if_neg (by decide), if_neg (by decide), e_get0, (N 5 (by decide)).1]
  have wa := wideI (⟨rfl, (N 3 (by decide)).2.2.2⟩ : (fv 3).toInt = (fv 3).toInt ∧ bd (fv 3) 4)
  have wb := wideI (subI (⟨rfl, (N 4 (by decide)).2.2.2⟩ : (fv 4).toInt = (fv 4).toInt ∧ bd (fv 4) 4) (⟨rfl, (N 3 (by decide)).2.2.1⟩ : (fu 3).toInt = (fu 3).toInt ∧ bd (fu 3) 4) (by decide))
  have wc := wideI (subI (⟨rfl, (N 5 (by decide)).2.2.2⟩ : (fv 5).toInt = (fv 5).toInt ∧ bd (fv 5) 4) (⟨rfl, (N 4 (by decide)).2.2.1⟩ : (fu 4).toInt = (fu 4).toInt ∧ bd (fu 4) 4) (by decide))
  have wd := wideI (negI (⟨rfl, (N 5 (by decide)).2.2.1⟩ : (fu 5).toInt = (fu 5).toInt ∧ bd (fu 5) 4) (by decide))
  have hx : px.toInt = px.toInt ∧ bd px 6 := ⟨rfl, hb.1⟩
  have hy : py.toInt = py.toInt ∧ bd py 6 := ⟨rfl, hb.2⟩
  have wx := wideI hx
  have wy := wideI hy
  have sp := sq_b (ra_p h) hb.1 hb.2 (by decide) (by decide) (by decide)
  have sq := sq_b (ra_q h) hb.1 hb.2 (by decide) (by decide) (by decide)
  have hF := subI (mulI hx sq (by decide)) (mulI hy sp (by decide)) (by decide)
  have wF := addL (addL (addL (mulL (mulL (mulL wa wx (by decide)) wx (by decide)) wx (by decide)) (mulL (mulL (mulL wb wx (by decide)) wx (by decide)) wy (by decide)) (by decide)) (mulL (mulL (mulL wc wx (by decide)) wy (by decide)) wy (by decide)) (by decide)) (mulL (mulL (mulL wd wy (by decide)) wy (by decide)) wy (by decide)) (by decide)
  rw [f0, f1, f2, f3]
  have key : (px * f_X3_squaresAt fv px py - py * f_X3_squaresAt fu px py = 0) ↔ (lg_cmp ((fv 3).toInt64 * px.toInt64 * px.toInt64 * px.toInt64 + (fv 4 - fu 3).toInt64 * px.toInt64 * px.toInt64 * py.toInt64 + (fv 5 - fu 4).toInt64 * px.toInt64 * py.toInt64 * py.toInt64 + (-(fu 5)).toInt64 * py.toInt64 * py.toInt64 * py.toInt64) 0 = 0) := by
    rw [i32_0 hF, l64_0 wF]
    have : px.toInt * ((fv 3).toInt * px.toInt * px.toInt + (fv 4).toInt * px.toInt * py.toInt + (fv 5).toInt * py.toInt * py.toInt) - py.toInt * ((fu 3).toInt * px.toInt * px.toInt + (fu 4).toInt * px.toInt * py.toInt + (fu 5).toInt * py.toInt * py.toInt) = (fv 3).toInt * px.toInt * px.toInt * px.toInt + ((fv 4).toInt - (fu 3).toInt) * px.toInt * px.toInt * py.toInt + ((fv 5).toInt - (fu 4).toInt) * px.toInt * py.toInt * py.toInt + -(fu 5).toInt * py.toInt * py.toInt * py.toInt := by grind
    rw [this]
  by_cases q : (px * f_X3_squaresAt fv px py - py * f_X3_squaresAt fu px py = 0)
  · rw [if_pos q, if_pos (key.mp q)]; rfl
  · rw [if_neg q, if_neg (fun w => q (key.mpr w))]; rfl
end SUMS
