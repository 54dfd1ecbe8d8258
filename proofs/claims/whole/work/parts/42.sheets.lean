/-- one sheet -/
def RH1 (h : Nat → Int32) (b : Int32) (m : Nat) (sh : Nat → Int32) (i : Nat) (sb ss : Int32) : Prop := sb = b ∧ ss = nI m ∧ m ≤ 16 ∧ ∀ k, k < 16 → sh (16 * i + k) = h k
def RH (hh : Nat → Nat → Int32) (bb : Nat → Int32) (mm : Nat → Nat) (sh sb ss : Nat → Int32) : Prop := ∀ i, i < 4 → RH1 (hh i) (bb i) (mm i) sh i (sb i) (ss i)
section SHEETS
variable {fu fv xs ys : Nat → Int32} {n : Nat} {nw : Nat → Int32} {rw : Nat → Nat → Int32} {co la : Nat} {un : Nat → Int32} {u : Nat} {du dv : Nat → Int32} {hh : Nat → Nat → Int32} {bb : Nat → Int32} {mm : Nat → Nat} {sh sb ss : Nat → Int32} {j : Nat}
theorem bg_v (h : Nat → Int32) (x : Int32) (m : Nat) {k : Nat} (hk : k < 16) : l_X5_begin_12 h x m 17 0 h k = 0 := by
  have := lp0 (L := l_X5_begin_12 h x m) (N := 16) (o := 0) (g := fun _ => 0) (z0 := h) (fun f k z hk hz => by
    show (if (16 : Int32) ≤ nI k then z else l_X5_begin_12 h x m f (k + 1) (upd z k 0)) = _
    rw [if_neg (show ¬ (16 : Int32) ≤ nI k from nI_ge (b := 16) hk (by decide)), Nat.zero_add]) (fun f z => by
    show (if (16 : Int32) ≤ nI 16 then z else _) = z
    rw [if_pos (by decide)])
  have q := this.1 k hk
  rw [Nat.zero_add] at q
  exact q
theorem se_v (sb ss sh : Nat → Int32) (fi px pb pn : Int32) : (∀ k, k < 16 → l_X8_sheet_85 sb ss sh fi px pb pn 17 0 sh (16 * px.toNatClampNeg + k) = 0) ∧ ∀ k, k < 16 * px.toNatClampNeg ∨ 16 * px.toNatClampNeg + 16 ≤ k → l_X8_sheet_85 sb ss sh fi px pb pn 17 0 sh k = sh k :=
  lp0 (L := l_X8_sheet_85 sb ss sh fi px pb pn) (N := 16) (o := 16 * px.toNatClampNeg) (g := fun _ => 0) (z0 := sh) (fun f k z hk hz => by
    show (if (16 : Int32) ≤ nI k then z else l_X8_sheet_85 sb ss sh fi px pb pn f (k + 1) (upd z (16 * px.toNatClampNeg + k) 0)) = _
    rw [if_neg (show ¬ (16 : Int32) ≤ nI k from nI_ge (b := 16) hk (by decide))]) (fun f z => by
    show (if (16 : Int32) ≤ nI 16 then z else _) = z
    rw [if_pos (by decide)])
theorem bits_if {α : Type} (pb : Int32) (F B : α) : (if pb = 0 then F else (if pb = 8 then F else (if pb = 16 then F else (if pb = 32 then F else B)))) = if f_X7_isBits pb = 0 then B else F := by
  unfold f_X7_isBits
  by_cases a : pb = 0
  · rw [if_pos a, if_pos a, if_neg (by decide)]
  rw [if_neg a, if_neg a]
  by_cases b : pb = 8
  · rw [if_pos b, if_pos b, if_neg (by decide)]
  rw [if_neg b, if_neg b]
  by_cases c : pb = 16
  · rw [if_pos c, if_pos c, if_neg (by decide)]
  rw [if_neg c, if_neg c]
  by_cases d : pb = 32
  · rw [if_pos d, if_pos d, if_neg (by decide)]
  rw [if_neg d, if_neg d, if_pos rfl]
theorem e_sheet (hH : RH hh bb mm sh sb ss) (fi px pb pn : Int32) (hj : ¬ f_X7_isSlot px = 0 → px.toNatClampNeg = j) : (f_X7_sheet (hh j) (bb j) (mm j) fi px pb pn).1 = (f_X8_sheet sb ss sh fi px pb pn).1 ∧ (f_X7_sheet (hh j) (bb j) (mm j) fi px pb pn).2.1 = (f_X8_sheet sb ss sh fi px pb pn).2.1 ∧ RH (upa hh j (f_X7_sheet (hh j) (bb j) (mm j) fi px pb pn).2.2.2.2) (upa bb j (f_X7_sheet (hh j) (bb j) (mm j) fi px pb pn).2.2.1) (upa mm j (f_X7_sheet (hh j) (bb j) (mm j) fi px pb pn).2.2.2.1) (f_X8_sheet sb ss sh fi px pb pn).2.2.2.2 (f_X8_sheet sb ss sh fi px pb pn).2.2.1 (f_X8_sheet sb ss sh fi px pb pn).2.2.2.1 := by
  have same : RH (upa hh j (hh j)) (upa bb j (bb j)) (upa mm j (mm j)) sh sb ss := by rw [upa_id, upa_id, upa_id]; exact hH
  unfold f_X7_sheet f_X8_sheet f_X8_isSlot
  rw [e_slt, show f_X7_isSheet px = f_X7_isSlot px from rfl, bits_if]
  by_cases g1 : f_X7_isSlot px = 0
  · rw [if_pos g1, if_pos g1]; exact ⟨rfl, rfl, same⟩
  rw [if_neg g1, if_neg g1]
  by_cases g2 : f_X7_isBits pb = 0
  · rw [if_pos g2, if_pos g2]; exact ⟨rfl, rfl, same⟩
  rw [if_neg g2, if_neg g2]
  unfold fb_X8_sheet_b36
  by_cases g3 : 0 ≤ pn
  · rw [if_pos g3, if_pos g3]
    by_cases g4 : pn ≤ 16
    · rw [if_pos g4, if_pos g4, hj g1]
      have hj4 : j < 4 := by rw [← hj g1]; exact (ix_slot g1).2
      obtain ⟨q1, q2⟩ := ix_size g3 g4
      have kv := se_v sb ss sh fi px pb pn
      rw [hj g1] at kv
      have em : (if pb = 0 then (0 : Int32) else pn) = nI (if pb = 0 then 0 else pn.toNatClampNeg) := by
        by_cases e : pb = 0
        · rw [if_pos e, if_pos e]; rfl
        · rw [if_neg e, if_neg e]; exact q1
      have em2 : (if pb = 0 then 0 else pn.toNatClampNeg) ≤ 16 := by split <;> omega
      refine ⟨?_, rfl, fun i hi => ?_⟩
      · show nI (if pb = 0 then 0 else pn.toNatClampNeg) = upd ss j (if pb = 0 then 0 else pn) j
        rw [pk_us, em]
      · show RH1 (upa hh j (l_X5_begin_12 (hh j) pb (if pb = 0 then 0 else pn.toNatClampNeg) 17 0 (hh j)) i) (upa bb j pb i) (upa mm j (if pb = 0 then 0 else pn.toNatClampNeg) i) (l_X8_sheet_85 sb ss sh fi px pb pn 17 0 sh) i (upd sb j pb i) (upd ss j (if pb = 0 then 0 else pn) i)
        by_cases e : i = j
        · subst e
          rw [upa_s, upa_s, upa_s, pk_us, pk_us]
          exact ⟨rfl, em, em2, fun k hk => by rw [kv.1 k hk, bg_v _ _ _ hk]⟩
        · rw [upa_n e, upa_n e, upa_n e, pk_un e, pk_un e]
          obtain ⟨a, b, c, d⟩ := hH i hi
          exact ⟨a, b, c, fun k hk => by rw [kv.2 (16 * i + k) (by omega)]; exact d k hk⟩
    · rw [if_neg g4, if_neg g4]; exact ⟨rfl, rfl, same⟩
  · rw [if_neg g3, if_neg g3]; exact ⟨rfl, rfl, same⟩
theorem miss (b : Int32) : (f_X5_isMissing b = 0) ↔ ¬ b = 0 := by
  unfold f_X5_isMissing
  by_cases h : b = 0
  · rw [if_pos h]; exact ⟨fun q => absurd q (by decide), fun q => absurd h q⟩
  · rw [if_neg h]; exact ⟨fun _ => h, fun _ => rfl⟩
theorem in_m {m : Nat} (hm : m ≤ 16) (x : Int32) : (f_X8_in x 0 (nI m - 1) = 0) ↔ (x < 0 ∨ ¬ x < nI m) := by
  have e : (nI m - 1).toInt = (m : Int) - 1 := pk_sub_toInt (b := 1) (by omega) (by decide)
  unfold f_X8_in
  by_cases h : x < 0
  · rw [if_pos h]; exact ⟨fun _ => Or.inl h, fun _ => rfl⟩
  · rw [if_neg h]
    have q : (nI m - 1 < x) ↔ ¬ x < nI m := by
      rw [Int32.lt_iff_toInt_lt, Int32.lt_iff_toInt_lt, e, nI_toInt (by omega)]; omega
    by_cases h2 : nI m - 1 < x
    · rw [if_pos h2]; exact ⟨fun _ => Or.inr (q.mp h2), fun _ => rfl⟩
    · rw [if_neg h2]; exact ⟨fun w => absurd w (by decide), fun w => absurd (q.mpr (w.resolve_left h)) h2⟩
theorem e_write (hH : RH hh bb mm sh sb ss) (fi px pm pv : Int32) (hj : ¬ f_X7_isSlot px = 0 → px.toNatClampNeg = j) : (f_X7_write (hh j) (bb j) (mm j) fi px pm pv).1 = (f_X8_write sb ss sh fi px pm pv).1 ∧ (f_X7_write (hh j) (bb j) (mm j) fi px pm pv).2.1 = (f_X8_write sb ss sh fi px pm pv).2.1 ∧ RH (upa hh j (f_X7_write (hh j) (bb j) (mm j) fi px pm pv).2.2) bb mm (f_X8_write sb ss sh fi px pm pv).2.2 sb ss := by
  have same : RH (upa hh j (hh j)) bb mm sh sb ss := by rw [upa_id]; exact hH
  unfold f_X7_write f_X8_write f_X8_isSlot
  rw [e_slt, show f_X7_isSheet px = f_X7_isSlot px from rfl]
  by_cases g1 : f_X7_isSlot px = 0
  · rw [if_pos g1, if_pos g1]; exact ⟨rfl, rfl, same⟩
  rw [if_neg g1, if_neg g1, hj g1]
  have hj4 : j < 4 := by rw [← hj g1]; exact (ix_slot g1).2
  obtain ⟨a, b, c, d⟩ := hH j hj4
  rw [a, b]
  by_cases g2 : bb j = 0
  · rw [if_pos g2, if_neg (fun q => (miss _).mp q g2)]; exact ⟨rfl, rfl, same⟩
  rw [if_neg g2, if_pos ((miss _).mpr g2)]
  have im := in_m c pm
  by_cases g3 : pm < 0
  · rw [if_pos g3, if_pos (im.mpr (Or.inl g3))]; exact ⟨rfl, rfl, same⟩
  rw [if_neg g3]
  by_cases g4 : pm < nI (mm j)
  · rw [if_pos g4, if_neg (fun q => by rcases im.mp q with w | w; exact g3 w; exact w g4)]
    have hk : pm.toNatClampNeg < 16 := by
      obtain ⟨m, hm, rfl⟩ := nI_of g3
      have := (nI_ltI hm (by omega)).mp g4
      rw [nI_clamp hm]; omega
    refine ⟨rfl, rfl, fun i hi => ?_⟩
    show RH1 (upa hh j (upd (hh j) pm.toNatClampNeg (f_X5_lowestBits (bb j) pv)) i) (bb i) (mm i) (upd sh (16 * j + pm.toNatClampNeg) (f_X5_lowestBits (bb j) pv)) i (sb i) (ss i)
    obtain ⟨a2, b2, c2, d2⟩ := hH i hi
    refine ⟨a2, b2, c2, fun k hk2 => ?_⟩
    by_cases e : i = j
    · subst e
      rw [upa_s]
      by_cases e2 : k = pm.toNatClampNeg
      · rw [e2, pk_us, pk_us]
      · rw [pk_un (by omega), pk_un e2]; exact d2 k hk2
    · rw [upa_n e, pk_un (by omega)]; exact d2 k hk2
  · rw [if_neg g4, if_pos (im.mpr (Or.inr g4))]; exact ⟨rfl, rfl, same⟩
theorem lgc_le (x y : Int64) : (lg_cmp x y ≤ 0) ↔ x.toInt ≤ y.toInt := by
  unfold lg_cmp
  by_cases h1 : x > y
  · rw [if_pos h1]
    have := Int64.lt_iff_toInt_lt.mp h1
    exact ⟨fun q => absurd q (by decide), fun q => by omega⟩
  · rw [if_neg h1]
    have h3 : ¬ y.toInt < x.toInt := fun q => h1 (Int64.lt_iff_toInt_lt.mpr q)
    by_cases h2 : x = y
    · rw [if_pos h2]; exact ⟨fun _ => by omega, fun _ => by decide⟩
    · rw [if_neg h2]; exact ⟨fun _ => by omega, fun _ => by decide⟩
theorem rng {m : Nat} (hm : m ≤ 16) (x y : Int32) : (¬ f_X5_hasRange m x y = 0) ↔ (¬ x < 0 ∧ ¬ y < 0 ∧ lg_cmp (x.toInt64 + y.toInt64) (nI m).toInt64 ≤ 0) := by
  have z : (0 : Int32).toInt = 0 := rfl
  have em : (nI m).toInt = (m : Int) := nI_toInt (by omega)
  unfold f_X5_hasRange
  by_cases h1 : x < 0
  · rw [if_pos h1]; exact ⟨fun q => absurd rfl q, fun q => absurd h1 q.1⟩
  rw [if_neg h1]
  by_cases h2 : y < 0
  · rw [if_pos h2]; exact ⟨fun q => absurd rfl q, fun q => absurd h2 q.2.1⟩
  rw [if_neg h2, lgc_le]
  rw [Int32.lt_iff_toInt_lt, z] at h1 h2
  have x1 := Int32.toInt_lt x
  have y1 := Int32.toInt_lt y
  have es : (x.toInt64 + y.toInt64).toInt = x.toInt + y.toInt := by
    rw [Int64.toInt_add, Int32.toInt_toInt64, Int32.toInt_toInt64]; exact bmod64 (by omega) (by omega)
  rw [es, Int32.toInt_toInt64, em]
  by_cases h3 : nI m < y
  · rw [if_pos h3]
    rw [Int32.lt_iff_toInt_lt, em] at h3
    exact ⟨fun q => absurd rfl q, fun q => absurd q.2.2 (by omega)⟩
  rw [if_neg h3]
  rw [Int32.lt_iff_toInt_lt, em] at h3
  have ed : (nI m - y).toInt = (m : Int) - y.toInt := by
    rw [Int32.toInt_sub, em]; exact bmod32 (by omega) (by omega)
  by_cases h4 : nI m - y < x
  · rw [if_pos h4]
    rw [Int32.lt_iff_toInt_lt, ed] at h4
    exact ⟨fun q => absurd rfl q, fun q => absurd q.2.2 (by omega)⟩
  rw [if_neg h4]
  rw [Int32.lt_iff_toInt_lt, ed] at h4
  exact ⟨fun _ => ⟨fun q => h1 (by rw [Int32.lt_iff_toInt_lt, z] at q; exact q), fun q => h2 (by rw [Int32.lt_iff_toInt_lt, z] at q; exact q), by omega⟩, fun _ => by decide⟩
theorem rng_n {m : Nat} (hm : m ≤ 16) {x y : Int32} (h : ¬ f_X5_hasRange m x y = 0) : x.toNatClampNeg + y.toNatClampNeg ≤ m := by
  obtain ⟨h1, h2, h3⟩ := (rng hm x y).mp h
  obtain ⟨a, ha, rfl⟩ := nI_of h1
  obtain ⟨b, hb, rfl⟩ := nI_of h2
  rw [nI_clamp ha, nI_clamp hb]
  rw [lgc_le, Int64.toInt_add, Int32.toInt_toInt64, Int32.toInt_toInt64, Int32.toInt_toInt64, nI_toInt ha, nI_toInt hb, nI_toInt (show m < 2 ^ 31 by omega), bmod64 (by omega) (by omega)] at h3
  omega
theorem e_copy (hH : RH hh bb mm sh sb ss) (cr : Nat → Int32) (fi px pf py po pn : Int32) {i : Nat} (hi : ¬ f_X7_isSlot px = 0 → px.toNatClampNeg = i) (hj : ¬ f_X7_isSlot py = 0 → py.toNatClampNeg = j) : (f_X7_copy (hh i) (bb i) (mm i) (hh j) (bb j) (mm j) fi px pf py po pn).1 = (f_X8_copy sb ss sh fi cr px pf py po pn).1 ∧ (f_X7_copy (hh i) (bb i) (mm i) (hh j) (bb j) (mm j) fi px pf py po pn).2.1 = (f_X8_copy sb ss sh fi cr px pf py po pn).2.1 ∧ RH (upa hh j (f_X7_copy (hh i) (bb i) (mm i) (hh j) (bb j) (mm j) fi px pf py po pn).2.2) bb mm (f_X8_copy sb ss sh fi cr px pf py po pn).2.2.1 sb ss := by
  have same : RH (upa hh j (hh j)) bb mm sh sb ss := by rw [upa_id]; exact hH
  unfold f_X7_copy f_X8_copy f_X8_isSlot
  rw [e_slt, e_slt, show f_X7_isSheet px = f_X7_isSlot px from rfl, show f_X7_isSheet py = f_X7_isSlot py from rfl]
  by_cases g1 : f_X7_isSlot px = 0
  · rw [if_pos g1, if_pos g1]; exact ⟨rfl, rfl, same⟩
  rw [if_neg g1, if_neg g1]
  by_cases g2 : f_X7_isSlot py = 0
  · rw [if_pos g2, if_pos g2]; exact ⟨rfl, rfl, same⟩
  rw [if_neg g2, if_neg g2, hi g1, hj g2]
  have hi4 : i < 4 := by rw [← hi g1]; exact (ix_slot g1).2
  have hj4 : j < 4 := by rw [← hj g2]; exact (ix_slot g2).2
  obtain ⟨a, b, c, d⟩ := hH i hi4
  obtain ⟨a2, b2, c2, d2⟩ := hH j hj4
  rw [a, b, a2, b2]
  by_cases g3 : bb i = 0
  · rw [if_pos g3, if_neg (fun q => (miss _).mp q g3)]; exact ⟨rfl, rfl, same⟩
  rw [if_neg g3, if_pos ((miss _).mpr g3)]
  by_cases g4 : bb j = 0
  · rw [if_pos g4, if_neg (fun q => (miss _).mp q g4)]; exact ⟨rfl, rfl, same⟩
  rw [if_neg g4, if_pos ((miss _).mpr g4)]
  by_cases g5 : bb i = bb j
  · rw [if_pos g5, if_pos g5]
    have r0 := rng c pf pn
    have r1 := rng c2 po pn
    by_cases k0 : f_X5_hasRange (mm i) pf pn = 0
    · rw [if_pos k0]
      by_cases w1 : pf < 0
      · rw [if_pos w1]; exact ⟨rfl, rfl, same⟩
      rw [if_neg w1]
      by_cases w2 : po < 0
      · rw [if_pos w2]; exact ⟨rfl, rfl, same⟩
      rw [if_neg w2]
      by_cases w3 : pn < 0
      · rw [if_pos w3]; exact ⟨rfl, rfl, same⟩
      rw [if_neg w3]
      have w4 : 0 < lg_cmp (pf.toInt64 + pn.toInt64) (nI (mm i)).toInt64 := Int32.not_le.mp (fun q => r0.mpr ⟨w1, w3, q⟩ k0)
      rw [if_pos w4]; exact ⟨rfl, rfl, same⟩
    · obtain ⟨w1, w3, w4⟩ := r0.mp k0
      rw [if_neg k0, if_neg w1]
      by_cases k1 : f_X5_hasRange (mm j) po pn = 0
      · rw [if_pos k1]
        by_cases w2 : po < 0
        · rw [if_pos w2]; exact ⟨rfl, rfl, same⟩
        rw [if_neg w2, if_neg w3, if_neg (fun q => absurd w4 (Int32.not_le.mpr q)), if_neg (fun q => r1.mpr ⟨w2, w3, q⟩ k1)]
        exact ⟨rfl, rfl, same⟩
      · obtain ⟨w2, _, w5⟩ := r1.mp k1
        rw [if_neg k1, if_neg w2, if_neg w3, if_neg (fun q => absurd w4 (Int32.not_le.mpr q)), if_pos w5]
        refine ⟨rfl, rfl, fun q hq => ?_⟩
        have n0 := rng_n c k0
        have n1 := rng_n c2 k1
        have cv := (lp0 (L := l_X8_copy_127 sb ss sh fi cr px pf py po pn) (N := pn.toNatClampNeg) (o := 0) (g := fun k => sh (((16 * px.toNatClampNeg) + pf.toNatClampNeg) + k)) (z0 := cr) (fun f k z hk hz => by
          show (if nI pn.toNatClampNeg ≤ nI k then z else l_X8_copy_127 sb ss sh fi cr px pf py po pn f (k + 1) (upd z k (sh (((16 * px.toNatClampNeg) + pf.toNatClampNeg) + k)))) = _
          rw [if_neg (nI_ge hk (by omega)), Nat.zero_add]) (fun f z => by
          show (if nI pn.toNatClampNeg ≤ nI pn.toNatClampNeg then z else _) = z
          rw [if_pos (Int32.le_refl _)])).1
        have sv := lp0 (L := l_X8_copy_164 sb ss sh fi cr px pf py po pn) (N := pn.toNatClampNeg) (o := (16 * py.toNatClampNeg) + po.toNatClampNeg) (g := l_X8_copy_127 sb ss sh fi cr px pf py po pn (pn.toNatClampNeg + 1) 0 cr) (z0 := sh) (fun f k z hk hz => by
          show (if nI pn.toNatClampNeg ≤ nI k then z else l_X8_copy_164 sb ss sh fi cr px pf py po pn f (k + 1) (upd z (((16 * py.toNatClampNeg) + po.toNatClampNeg) + k) ((l_X8_copy_127 sb ss sh fi cr px pf py po pn (pn.toNatClampNeg + 1) 0 cr) k))) = _
          rw [if_neg (nI_ge hk (by omega))]) (fun f z => by
          show (if nI pn.toNatClampNeg ≤ nI pn.toNatClampNeg then z else _) = z
          rw [if_pos (Int32.le_refl _)])
        rw [hi g1] at cv
        rw [hj g2] at sv
        show RH1 (upa hh j (va_cpy (hh i) (hh j) pf.toNatClampNeg po.toNatClampNeg pn.toNatClampNeg) q) (bb q) (mm q) (l_X8_copy_164 sb ss sh fi cr px pf py po pn (pn.toNatClampNeg + 1) 0 sh) q (sb q) (ss q)
        obtain ⟨a3, b3, c3, d3⟩ := hH q hq
        refine ⟨a3, b3, c3, fun k hk => ?_⟩
        by_cases e : q = j
        · subst e
          rw [upa_s]
          by_cases e2 : po.toNatClampNeg ≤ k ∧ k < po.toNatClampNeg + pn.toNatClampNeg
          · rw [pk_cpy_in e2.1 e2.2]
            have := sv.1 (k - po.toNatClampNeg) (by omega)
            rw [show 16 * q + po.toNatClampNeg + (k - po.toNatClampNeg) = 16 * q + k from by omega] at this
            rw [this]
            have t := cv (k - po.toNatClampNeg) (by omega)
            rw [Nat.zero_add] at t
            rw [t]
            show sh (16 * i + pf.toNatClampNeg + (k - po.toNatClampNeg)) = _
            rw [Nat.add_assoc]
            exact d _ (by omega)
          · rw [pk_cpy_out (by omega), sv.2 (16 * q + k) (by omega)]
            exact d3 k hk
        · rw [upa_n e, sv.2 (16 * q + k) (by omega)]
          exact d3 k hk
  · rw [if_neg g5, if_neg g5]; exact ⟨rfl, rfl, same⟩
theorem e_copyS (h : Nat → Int32) (b : Int32) (m : Nat) (fi px pf py po pn : Int32) : f_X7_copyS h b m fi px pf py po pn = f_X7_copy h b m h b m fi px pf py po pn := rfl
theorem ly_v (fu fv du dv xs ys : Nat → Int32) (n : Nat) (rw : Nat → Nat → Int32) (co la : Nat) (h0 : Nat → Int32) (b0 : Int32) (n0 : Nat) (fi px : Int32) : ∀ (f ki : Nat) (zp zq : Nat → Int32), ki ≤ 12 → 12 - ki + 1 ≤ f → (∀ k, k < 6 → k < ki → zp k = if nI n0 ≤ nI k then 0 else h0 k) → (∀ k, k < 6 → 6 + k < ki → zq k = if nI n0 ≤ nI (6 + k) then 0 else h0 (6 + k)) → ∀ k, k < 6 → (l_X7_lay_38 fu fv du dv xs ys n rw co la h0 b0 n0 fi px f ki zp zq).1 k = (if nI n0 ≤ nI k then 0 else h0 k) ∧ (l_X7_lay_38 fu fv du dv xs ys n rw co la h0 b0 n0 fi px f ki zp zq).2 k = if nI n0 ≤ nI (6 + k) then 0 else h0 (6 + k) := by
  intro f
  induction f with
  | zero => intro ki zp zq _ h; omega
  | succ f ih =>
    intro ki zp zq h1 h2 h3 h4 k hk
    unfold l_X7_lay_38
    rcases Nat.lt_or_ge ki 12 with q | q
    · rw [if_neg (show ¬ (12 : Int32) ≤ nI ki from nI_ge (b := 12) q (by decide))]
      rcases Nat.lt_or_ge ki 6 with w | w
      · rw [if_pos (show (nI ki) < 6 from nI_lt (b := 6) w (by decide)), if_pos rfl]
        refine ih (ki + 1) _ _ (by omega) (by omega) (fun k2 a b => ?_) (fun k2 a b => h4 k2 a (by omega)) k hk
        rw [Nat.mod_eq_of_lt w]
        by_cases e : k2 = ki
        · rw [e, pk_us]
        · rw [pk_un e]; exact h3 k2 a (by omega)
      · rw [if_neg (show ¬ (nI ki) < 6 from nI_nlt (b := 6) w (by omega)), if_neg (by decide)]
        refine ih (ki + 1) _ _ (by omega) (by omega) (fun k2 a b => h3 k2 a (by omega)) (fun k2 a b => ?_) k hk
        by_cases e : 6 + k2 = ki
        · rw [← e, show (6 + k2) % 6 = k2 from by omega, pk_us]
        · rw [pk_un (by omega)]; exact h4 k2 a (by omega)
    · have : ki = 12 := by omega
      subst this
      rw [if_pos (by decide)]
      exact ⟨h3 k hk (by omega), h4 k hk (by omega)⟩
theorem e_lay (h : RA fu fv xs ys n nw) (hp : RP rw co la un u) (hH : RH hh bb mm sh sb ss) (fr : Nat → Int32) (fi px : Int32) (hj : ¬ f_X7_isSlot px = 0 → px.toNatClampNeg = j) : (f_X7_lay fu fv du dv xs ys n rw co la (hh j) (bb j) (mm j) fi px).1 = (f_X8_lay nw un sb ss sh u fi fr px).1 ∧ (f_X7_lay fu fv du dv xs ys n rw co la (hh j) (bb j) (mm j) fi px).2.1 = (f_X8_lay nw un sb ss sh u fi fr px).2.2.1 ∧ RA (f_X7_lay fu fv du dv xs ys n rw co la (hh j) (bb j) (mm j) fi px).2.2.1 (f_X7_lay fu fv du dv xs ys n rw co la (hh j) (bb j) (mm j) fi px).2.2.2.1 xs ys n (f_X8_lay nw un sb ss sh u fi fr px).2.2.2.1 ∧ RP (f_X7_lay fu fv du dv xs ys n rw co la (hh j) (bb j) (mm j) fi px).2.2.2.2.2.2.2.2 (f_X7_lay fu fv du dv xs ys n rw co la (hh j) (bb j) (mm j) fi px).2.2.2.2.2.2.1 (f_X7_lay fu fv du dv xs ys n rw co la (hh j) (bb j) (mm j) fi px).2.2.2.2.2.2.2.1 (f_X8_lay nw un sb ss sh u fi fr px).2.2.2.2.1 (f_X8_lay nw un sb ss sh u fi fr px).2.1 := by
  unfold f_X7_lay f_X8_lay f_X8_isSlot
  rw [e_slt, show f_X7_isSheet px = f_X7_isSlot px from rfl]
  by_cases g1 : f_X7_isSlot px = 0
  · rw [if_pos g1, if_pos g1]; exact ⟨rfl, rfl, h, hp⟩
  rw [if_neg g1, if_neg g1, hj g1]
  have hj4 : j < 4 := by rw [← hj g1]; exact (ix_slot g1).2
  obtain ⟨a, b, c, d⟩ := hH j hj4
  rw [a, b]
  by_cases g2 : bb j = 0
  · rw [if_pos g2, if_neg (fun q => (miss _).mp q g2)]; exact ⟨rfl, rfl, h, hp⟩
  rw [if_neg g2, if_pos ((miss _).mpr g2)]
  have v := ly_v fu fv du dv xs ys n rw co la (hh j) (bb j) (mm j) fi px 13 0 du dv (by decide) (by decide) (fun k _ q => absurd q (Nat.not_lt_zero _)) (fun k _ q => absurd q (Nat.not_lt_zero _))
  have w0 := (lp0 (L := l_X8_lay_55 nw un sb ss sh u fi fr px) (N := 12) (o := 0) (g := fun k => if (if 12 ≤ (ss px.toNatClampNeg) then 12 else (ss px.toNatClampNeg)) ≤ (nI k) then 0 else (sh ((16 * px.toNatClampNeg) + k))) (z0 := fr) (fun f k z hk hz => by
    show (if (12 : Int32) ≤ nI k then z else l_X8_lay_55 nw un sb ss sh u fi fr px f (k + 1) (upd z k (if (if 12 ≤ (ss px.toNatClampNeg) then 12 else (ss px.toNatClampNeg)) ≤ (nI k) then 0 else (sh ((16 * px.toNatClampNeg) + k))))) = _
    rw [if_neg (show ¬ (12 : Int32) ≤ nI k from nI_ge (b := 12) hk (by decide)), Nat.zero_add]) (fun f z => by
    show (if (12 : Int32) ≤ nI 12 then z else _) = z
    rw [if_pos (by decide)])).1
  have w : ∀ k, k < 12 → l_X8_lay_55 nw un sb ss sh u fi fr px (12 + 1) 0 fr k = if nI (mm j) ≤ nI k then 0 else hh j k := by
    intro k hk
    have t := w0 k hk
    rw [Nat.zero_add] at t
    rw [t]
    show (if (if 12 ≤ (ss px.toNatClampNeg) then 12 else (ss px.toNatClampNeg)) ≤ (nI k) then 0 else (sh ((16 * px.toNatClampNeg) + k))) = _
    rw [hj g1, b, d k (by omega)]
    by_cases q : (12 : Int32) ≤ nI (mm j)
    · have q2 : 12 ≤ mm j := (nI_leI (a := 12) (by decide) (by omega)).mp q
      rw [if_pos q, if_neg (show ¬ (12 : Int32) ≤ nI k from nI_ge (b := 12) hk (by decide)), if_neg (nI_ge (show k < mm j by omega) (by omega))]
    · rw [if_neg q]
  have hf : ∀ k, k < 6 → l_X8_lay_55 nw un sb ss sh u fi fr px (12 + 1) 0 fr k = (l_X7_lay_38 fu fv du dv xs ys n rw co la (hh j) (bb j) (mm j) fi px (12 + 1) 0 du dv).1 k ∧ l_X8_lay_55 nw un sb ss sh u fi fr px (12 + 1) 0 fr (6 + k) = (l_X7_lay_38 fu fv du dv xs ys n rw co la (hh j) (bb j) (mm j) fi px (12 + 1) 0 du dv).2 k := fun k hk =>
    ⟨(w k (by omega)).trans (v k hk).1.symm, (w (6 + k) (by omega)).trans (v k hk).2.symm⟩
  have em : (if (12 : Int32) < nI (mm j) then 12 else nI (mm j)) = (if (12 : Int32) ≤ nI (mm j) then 12 else nI (mm j)) := by
    by_cases q : (12 : Int32) < nI (mm j)
    · rw [if_pos q, if_pos (Int32.le_of_lt q)]
    · rw [if_neg q]
      split
      · rename_i q2; exact Int32.le_antisymm (Int32.not_lt.mp q) q2
      · rfl
  rcases fit_eq hf with ⟨q1, q2⟩ | ⟨q1, q2, q3⟩
  · rw [if_pos q1, if_pos q2]; exact ⟨rfl, rfl, h, hp⟩
  · have n1 : ¬ f_X8_isSmall (l_X8_lay_55 nw un sb ss sh u fi fr px (12 + 1) 0 fr) = 0 := by rw [q1]; decide
    have n2 : ¬ f_X1_fits (l_X7_lay_38 fu fv du dv xs ys n rw co la (hh j) (bb j) (mm j) fi px (12 + 1) 0 du dv).1 (l_X7_lay_38 fu fv du dv xs ys n rw co la (hh j) (bb j) (mm j) fi px (12 + 1) 0 du dv).2 = 0 := by rw [q2]; decide
    rw [if_neg n1, if_neg n2]
    have t := take_v nw (l_X8_lay_55 nw un sb ss sh u fi fr px (12 + 1) 0 fr)
    refine ⟨em, rfl, RA_act (du := (l_X7_lay_38 fu fv du dv xs ys n rw co la (hh j) (bb j) (mm j) fi px (12 + 1) 0 du dv).1) (dv := (l_X7_lay_38 fu fv du dv xs ys n rw co la (hh j) (bb j) (mm j) fi px (12 + 1) 0 du dv).2) h (fun k hk => ?_) (fun k hk => t.2 k hk), e_rem h hp⟩
    show f_X8_take nw (l_X8_lay_55 nw un sb ss sh u fi fr px (12 + 1) 0 fr) k = _ ∧ f_X8_take nw (l_X8_lay_55 nw un sb ss sh u fi fr px (12 + 1) 0 fr) (6 + k) = _ ∧ _
    rw [t.1 k (by omega), t.1 (6 + k) (by omega)]
    exact ⟨(hf k hk).1, (hf k hk).2, q3 k hk⟩
end SHEETS
