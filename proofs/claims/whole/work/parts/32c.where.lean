theorem nI_eqI {a b : Nat} (ha : a ≤ 64) (hb : b ≤ 64) : nI a = nI b ↔ a = b := nI_eq (by omega) (by omega)
theorem md_lt {k n : Nat} (h : k < n) : k % n = k := Nat.mod_eq_of_lt h
theorem md_p {k n : Nat} (h : k < n) : (k + n - 1) % n = if k = 0 then n - 1 else k - 1 := by
  by_cases h0 : k = 0
  · subst h0
    rw [if_pos rfl, Nat.zero_add]
    exact Nat.mod_eq_of_lt (by omega)
  · rw [if_neg h0, show k + n - 1 = (k - 1) + n from by omega, Nat.add_mod_right]
    exact Nat.mod_eq_of_lt (by omega)
section SIMPLE
variable {fu fv xs ys : Nat → Int32} {n : Nat} {nw : Nat → Int32}
theorem bes_0 (hn : n ≤ 8) {k m : Nat} (h : m < k) (hk : k < n) : ((if ((nI k) - (nI m)) = 1 then 1 else (if ((nI k) - (nI m)) = ((nI n) - 1) then 1 else 0)) : Int32) = 0 ↔ ¬ k = m + 1 ∧ ¬ (m = 0 ∧ k = n - 1) := by
  rw [pk_sub (Nat.le_of_lt h), show nI n - 1 = nI (n - 1) from pk_sub (b := 1) (by omega)]
  have e1 : nI (k - m) = 1 ↔ k = m + 1 := by rw [show (1 : Int32) = nI 1 from rfl, nI_eqI (by omega) (by omega)]; omega
  have e2 : nI (k - m) = nI (n - 1) ↔ (m = 0 ∧ k = n - 1) := by rw [nI_eqI (by omega) (by omega)]; omega
  by_cases h1 : nI (k - m) = 1
  · rw [if_pos h1]
    exact ⟨fun q => absurd q (by decide), fun q => absurd (e1.mp h1) q.1⟩
  · rw [if_neg h1]
    by_cases h2 : nI (k - m) = nI (n - 1)
    · rw [if_pos h2]
      exact ⟨fun q => absurd q (by decide), fun q => absurd (e2.mp h2) q.2⟩
    · rw [if_neg h2]
      exact ⟨fun _ => ⟨fun q => h1 (e1.mpr q), fun q => h2 (e2.mpr q)⟩, fun _ => rfl⟩
theorem alike_0 (xs ys : Nat → Int32) (i k : Nat) : f_X0_areAlike xs ys i k = 0 ↔ ¬ (xs i = xs k ∧ ys i = ys k) := by
  unfold f_X0_areAlike
  by_cases h1 : xs i = xs k
  · rw [if_pos h1]
    by_cases h2 : ys i = ys k
    · rw [if_pos h2]; exact ⟨fun q => absurd q (by decide), fun q => absurd ⟨h1, h2⟩ q⟩
    · rw [if_neg h2]; exact ⟨fun _ q => h2 q.2, fun _ => rfl⟩
  · rw [if_neg h1]; exact ⟨fun _ q => h1 q.1, fun _ => rfl⟩
theorem or_0 {x y : Int32} : (if x = 0 then (if y = 0 then (0 : Int32) else 1) else 1) = 0 ↔ x = 0 ∧ y = 0 := by
  by_cases h1 : x = 0
  · rw [if_pos h1]
    by_cases h2 : y = 0
    · rw [if_pos h2]; exact ⟨fun _ => ⟨h1, h2⟩, fun _ => rfl⟩
    · rw [if_neg h2]; exact ⟨fun q => absurd q (by decide), fun q => absurd q.2 h2⟩
  · rw [if_neg h1]; exact ⟨fun q => absurd q (by decide), fun q => absurd q.1 h1⟩
theorem folds_0 (xs ys : Nat → Int32) (i k : Nat) : f_X0_foldsBack xs ys i k = 0 ↔ f_X0_isOn xs ys i (xs (k + 1)) (ys (k + 1)) = 0 ∧ f_X0_isOn xs ys k (xs i) (ys i) = 0 := or_0
theorem touches_0 (xs ys : Nat → Int32) (i k : Nat) : f_X0_touches xs ys i k = 0 ↔ f_X0_isOn xs ys i (xs k) (ys k) = 0 ∧ f_X0_isOn xs ys i (xs (k + 1)) (ys (k + 1)) = 0 := or_0
def apartC (xs ys : Nat → Int32) (i k : Nat) : Prop := (f_X0_parts xs ys i k = 0 ∨ f_X0_parts xs ys k i = 0) ∧ f_X0_touches xs ys i k = 0 ∧ f_X0_touches xs ys k i = 0
theorem rest_0 {p q t u : Int32} : (if p = 0 then (if t = 0 then (if u = 0 then (0 : Int32) else 1) else 1) else (if q = 0 then (if t = 0 then (if u = 0 then 0 else 1) else 1) else 1)) = 0 ↔ (p = 0 ∨ q = 0) ∧ t = 0 ∧ u = 0 := by
  by_cases h1 : p = 0
  · rw [if_pos h1, or_0]; exact ⟨fun h => ⟨Or.inl h1, h⟩, fun h => h.2⟩
  · rw [if_neg h1]
    by_cases h2 : q = 0
    · rw [if_pos h2, or_0]; exact ⟨fun h => ⟨Or.inr h2, h⟩, fun h => h.2⟩
    · rw [if_neg h2]; exact ⟨fun h => absurd h (by decide), fun h => h.1.elim (fun g => absurd g h1) (fun g => absurd g h2)⟩
theorem clash_0 (hn : n ≤ 8) {i k : Nat} (h : i < k) (hk : k < n) : f_X0_clash xs ys n i k = 0 ↔ (k = i + 1 → f_X0_foldsBack xs ys i k = 0) ∧ (¬ k = i + 1 → i = 0 ∧ k = n - 1 → f_X0_foldsBack xs ys k i = 0) ∧ (¬ k = i + 1 → ¬ (i = 0 ∧ k = n - 1) → apartC xs ys i k) := by
  unfold f_X0_clash
  rw [show nI n - 1 = nI (n - 1) from pk_sub (b := 1) (by omega)]
  by_cases h1 : nI k = nI (i + 1)
  · have e1 := (nI_eqI (by omega) (by omega)).mp h1
    rw [if_pos h1]
    exact ⟨fun q => ⟨fun _ => q, fun g => absurd e1 g, fun g => absurd e1 g⟩, fun q => q.1 e1⟩
  · have e1 : ¬ k = i + 1 := fun q => h1 (by rw [q])
    rw [if_neg h1]
    by_cases h2 : nI i = 0
    · have e2 : i = 0 := (nI_eqI (b := 0) (by omega) (by omega)).mp h2
      rw [if_pos h2]
      by_cases h3 : nI k = nI (n - 1)
      · have e3 := (nI_eqI (by omega) (by omega)).mp h3
        rw [if_pos h3]
        exact ⟨fun q => ⟨fun g => absurd g e1, fun _ _ => q, fun _ g => absurd ⟨e2, e3⟩ g⟩, fun q => q.2.1 e1 ⟨e2, e3⟩⟩
      · have e3 : ¬ k = n - 1 := fun q => h3 (by rw [q])
        rw [if_neg h3, rest_0]
        exact ⟨fun q => ⟨fun g => absurd g e1, fun _ g => absurd g.2 e3, fun _ _ => q⟩, fun q => q.2.2 e1 (fun g => e3 g.2)⟩
    · have e2 : ¬ i = 0 := fun q => h2 (by rw [q]; rfl)
      rw [if_neg h2, rest_0]
      exact ⟨fun q => ⟨fun g => absurd g e1, fun _ g => absurd g.1 e2, fun _ _ => q⟩, fun q => q.2.2 e1 (fun g => e2 g.1)⟩
theorem meet_0 (h : RA fu fv xs ys n nw) {i k : Nat} (hi : i < n) (hk : k < n) : f_X8_doMeet nw k i n = 0 ↔ apartC xs ys i k := by
  have hn : 0 < n := by omega
  unfold f_X8_doMeet apartC
  rw [e_turn h hn, e_turn h hn, e_turn h hn, e_turn h hn, e_isOn h hn, e_isOn h hn, e_isOn h hn, e_isOn h hn, md_lt hi, md_lt hk, (ex_x0 h (Nat.le_of_lt hi) hn).1, (ex_x0 h (Nat.le_of_lt hi) hn).2, (ex_x0 h (Nat.le_of_lt hk) hn).1, (ex_x0 h (Nat.le_of_lt hk) hn).2, (ex_x0 h hi hn).1, (ex_x0 h hi hn).2, (ex_x0 h hk hn).1, (ex_x0 h hk hn).2, touches_0, touches_0]
  have p1 := parts_0 xs ys i k
  have p2 := parts_0 xs ys k i
  by_cases g1 : f_X0_isOn xs ys k (xs i) (ys i) = 0
  · rw [if_pos g1]
    by_cases g2 : f_X0_isOn xs ys k (xs (i + 1)) (ys (i + 1)) = 0
    · rw [if_pos g2]
      by_cases g3 : f_X0_isOn xs ys i (xs k) (ys k) = 0
      · rw [if_pos g3]
        by_cases g4 : f_X0_isOn xs ys i (xs (k + 1)) (ys (k + 1)) = 0
        · rw [if_pos g4]
          by_cases g5 : f_X0_parts xs ys k i = 0
          · rw [if_pos (p2.mp g5)]
            exact ⟨fun _ => ⟨Or.inr g5, ⟨g3, g4⟩, g1, g2⟩, fun _ => rfl⟩
          · rw [if_neg (fun q => g5 (p2.mpr q))]
            by_cases g6 : f_X0_parts xs ys i k = 0
            · rw [if_pos (p1.mp g6)]
              exact ⟨fun _ => ⟨Or.inl g6, ⟨g3, g4⟩, g1, g2⟩, fun _ => rfl⟩
            · rw [if_neg (fun q => g6 (p1.mpr q))]
              exact ⟨fun q => absurd q (by decide), fun q => q.1.elim (fun q => absurd q g6) (fun q => absurd q g5)⟩
        · rw [if_neg g4]; exact ⟨fun q => absurd q (by decide), fun q => absurd q.2.1.2 g4⟩
      · rw [if_neg g3]; exact ⟨fun q => absurd q (by decide), fun q => absurd q.2.1.1 g3⟩
    · rw [if_neg g2]; exact ⟨fun q => absurd q (by decide), fun q => absurd q.2.2.2 g2⟩
  · rw [if_neg g1]; exact ⟨fun q => absurd q (by decide), fun q => absurd q.2.2.1 g1⟩
theorem e_simple (h : RA fu fv xs ys n nw) : f_X8_isSimple nw n = f_X0_isSimple xs ys n := by
  have hn8 := h.2.2.1
  unfold f_X8_isSimple f_X0_isSimple
  by_cases h3 : 3 ≤ nI n
  · rw [if_pos h3, if_pos h3]
    have hn3 : 3 ≤ n := (nI_leI (a := 3) (by omega) (by omega)).mp h3
    have hn : 0 < n := by omega
    have key : l_X8_isSimple_14 nw n (n + 1) 0 = 1 ↔ l_X0_isSimple_12 xs ys n (n + 1) 0 = 1 := by
      rw [sM_14 nw n hn8 _ _ (Nat.zero_le _) (by omega), sM_68 nw n hn8 _ _ (Nat.zero_le _) (by omega), sA_out xs ys n hn8 _ _ (Nat.zero_le _) (by omega)]
      have X : ∀ k, k < n → f_X8_xOf nw k n = xs k ∧ f_X8_yOf nw k n = ys k := fun k hk => ex_x0 h (Nat.le_of_lt hk) hn
      have X1 : ∀ k, k < n → f_X8_xOf nw (k + 1) n = xs (k + 1) ∧ f_X8_yOf nw (k + 1) n = ys (k + 1) := fun k hk => ex_x0 h hk hn
      have XP : ∀ k, k < n → f_X8_xOf nw (k + n - 1) n = xs (if k = 0 then n - 1 else k - 1) ∧ f_X8_yOf nw (k + n - 1) n = ys (if k = 0 then n - 1 else k - 1) := fun k hk => by
        obtain ⟨e1, e2⟩ := ex_x h hn (k + n - 1)
        rw [e1, e2, md_p hk]; exact ⟨rfl, rfl⟩
      have IP : ∀ k, k < n → ∀ x y, f_X8_isOn nw (k + n - 1) x y n = f_X0_isOn xs ys (if k = 0 then n - 1 else k - 1) x y := fun k hk x y => by rw [e_isOn h hn, md_p hk]
      have IK : ∀ k, k < n → ∀ x y, f_X8_isOn nw k x y n = f_X0_isOn xs ys k x y := fun k hk x y => by rw [e_isOn h hn, md_lt hk]
      constructor
      · intro g i _ hi k hik hk
        refine ⟨(alike_0 xs ys i k).mpr (fun q => g.1 k (Nat.zero_le _) hk i hik ?_), ?_⟩
        · rw [(X k hk).1, (X k hk).2, (X i hi).1, (X i hi).2]; exact ⟨q.1.symm, q.2.symm⟩
        · rw [clash_0 hn8 hik hk]
          refine ⟨fun e => ?_, fun e1 e2 => ?_, fun e1 e2 => ?_⟩
          · have := (g.2 k (Nat.zero_le _) hk).1
            rw [IP k hk, IK k hk, (X1 k hk).1, (X1 k hk).2, (XP k hk).1, (XP k hk).2, if_neg (by omega), show k - 1 = i from by omega] at this
            exact (folds_0 xs ys i k).mpr this
          · have := (g.2 i (Nat.zero_le _) hi).1
            rw [IP i hi, IK i hi, (X1 i hi).1, (X1 i hi).2, (XP i hi).1, (XP i hi).2, if_pos e2.1, ← e2.2] at this
            exact (folds_0 xs ys k i).mpr this
          · exact (meet_0 h hi hk).mp ((g.2 k (Nat.zero_le _) hk).2 i hik ((bes_0 hn8 hik hk).mpr ⟨e1, e2⟩))
      · intro g
        refine ⟨fun k _ hk m hm => ?_, fun k _ hk => ⟨?_, fun m hm hb => ?_⟩⟩
        · have := (alike_0 xs ys m k).mp (g m (Nat.zero_le _) (by omega) k hm hk).1
          rw [(X k hk).1, (X k hk).2, (X m (by omega)).1, (X m (by omega)).2]
          exact fun q => this ⟨q.1.symm, q.2.symm⟩
        · rw [IP k hk, IK k hk, (X1 k hk).1, (X1 k hk).2, (XP k hk).1, (XP k hk).2]
          by_cases h0 : k = 0
          · rw [if_pos h0]
            have c := (g 0 (Nat.zero_le _) hn (n - 1) (by omega) (by omega)).2
            rw [clash_0 hn8 (by omega) (by omega)] at c
            have c2 := (folds_0 xs ys (n - 1) 0).mp (c.2.1 (by omega) ⟨rfl, rfl⟩)
            subst h0
            exact c2
          · rw [if_neg h0]
            have c := (g (k - 1) (Nat.zero_le _) (by omega) k (by omega) hk).2
            rw [clash_0 hn8 (by omega) hk] at c
            exact (folds_0 xs ys (k - 1) k).mp (c.1 (by omega))
        · have hb2 := (bes_0 hn8 hm hk).mp hb
          have c := (g m (Nat.zero_le _) (by omega) k hm hk).2
          rw [clash_0 hn8 hm hk] at c
          exact (meet_0 h (by omega) hk).mpr (c.2.2 hb2.1 hb2.2)
    have b1 := bl_X8_isSimple_14 nw n (n + 1) 0
    have b2 := bl_X0_isSimple_12 xs ys n (n + 1) 0
    rcases b1 with b1 | b1 <;> rcases b2 with b2 | b2
    · rw [b1, b2]
    · rw [b1, b2] at key; exact absurd (key.mpr rfl) (by decide)
    · rw [b1, b2] at key; exact absurd (key.mp rfl) (by decide)
    · rw [b1, b2]
  · rw [if_neg h3, if_neg h3]
/-! where a place is -/
def tog (z : Int32) : Int32 := if z = 0 then 1 else 0
theorem e_pass (h : RA fu fv xs ys n nw) {k : Nat} (hk : k < n) (x y z : Int32) : (if ((if (f_X8_yOf nw k n) ≤ y then 0 else 1) : Int32) = (if (f_X8_yOf nw (k + 1) n) ≤ y then 0 else 1) then z else (if (f_X8_yOf nw (k + 1) n) ≤ (f_X8_yOf nw k n) then (if 0 ≤ (f_X8_turn (f_X8_xOf nw k n) (f_X8_yOf nw k n) (f_X8_xOf nw (k + 1) n) (f_X8_yOf nw (k + 1) n) x y) then z else (if z = 0 then 1 else 0)) else (if (f_X8_turn (f_X8_xOf nw k n) (f_X8_yOf nw k n) (f_X8_xOf nw (k + 1) n) (f_X8_yOf nw (k + 1) n) x y) ≤ 0 then z else (if z = 0 then 1 else 0)))) = (if (f_X0_passesRightOf xs ys k x y) = 0 then z else (if z = 0 then 1 else 0)) := by
  have hn : 0 < n := by omega
  rw [e_turn h hn, md_lt hk, (ex_x0 h (Nat.le_of_lt hk) hn).2, (ex_x0 h hk hn).2]
  unfold f_X0_passesRightOf
  have hs := sg_tri (f_X0_leftOf xs ys k x y)
  generalize f_X0_leftOf xs ys k x y = L at *
  generalize ys k = p
  generalize ys (k + 1) = q
  have z0 : (0 : Int32).toInt = 0 := rfl
  have hs2 : (0 ≤ sg32 L ↔ 0 ≤ L) ∧ (sg32 L ≤ 0 ↔ L ≤ 0) := by
    rcases hs with ⟨a, b⟩ | ⟨a, b⟩ | ⟨a, b⟩
    · rw [a, b]; exact ⟨Iff.rfl, Iff.rfl⟩
    · rw [a]; exact ⟨⟨fun _ => Int32.le_of_lt b, fun _ => by decide⟩, ⟨fun g => absurd g (by decide), fun g => absurd b (Int32.not_lt.mpr g)⟩⟩
    · rw [a]; exact ⟨⟨fun g => absurd g (by decide), fun g => absurd b (Int32.not_lt.mpr g)⟩, ⟨fun _ => Int32.le_of_lt b, fun _ => by decide⟩⟩
  have nl : ∀ {u v : Int32}, u ≤ v → ¬ v < u := fun g => Int32.not_lt.mpr g
  have nn : ∀ {u v : Int32}, ¬ u ≤ v → v < u := fun g => Int32.not_le.mp g
  by_cases a1 : p ≤ y
  · rw [if_pos a1, if_neg (nl a1)]
    by_cases a2 : q ≤ y
    · rw [if_pos a2, if_pos rfl, if_pos a2, if_neg (nl a2), if_pos a1, if_pos rfl]
    · have a3 : ¬ q ≤ p := fun g => a2 (Int32.le_trans g a1)
      rw [if_neg a2, if_neg (by decide), if_neg a3, if_neg a2]
      by_cases a4 : L ≤ 0
      · rw [if_pos (hs2.2.mpr a4), if_pos a4, if_pos rfl]
      · rw [if_neg (fun g => a4 (hs2.2.mp g)), if_neg a4, if_neg (show ¬ (1 : Int32) = 0 by decide)]
  · rw [if_neg a1, if_pos (nn a1)]
    by_cases a2 : q ≤ y
    · have a3 : q ≤ p := Int32.le_trans a2 (Int32.le_of_lt (nn a1))
      rw [if_pos a2, if_neg (by decide), if_pos a3, if_neg (nl a2), if_neg a1]
      by_cases a4 : 0 ≤ L
      · rw [if_pos (hs2.1.mpr a4), if_pos a4, if_pos rfl]
      · rw [if_neg (fun g => a4 (hs2.1.mp g)), if_neg a4, if_neg (show ¬ (1 : Int32) = 0 by decide)]
    · rw [if_neg a2, if_pos rfl, if_pos (nn a2), if_pos rfl]
theorem w_none (h : RA fu fv xs ys n nw) (x y : Int32) : ∀ (f ki : Nat) (z : Int32), ki ≤ n → n - ki + 1 ≤ f → (∀ k, ki ≤ k → k < n → f_X0_isOn xs ys k x y = 0) → l_X0_whereIs_5 xs ys n x y f ki z = (if l_X8_where_33 nw x y n f ki z = 0 then 0 else 2) := by
  have hn8 := h.2.2.1
  intro f
  induction f with
  | zero => intro ki z h1 h2; omega
  | succ f ih =>
    intro ki z h1 h2 hN
    unfold l_X0_whereIs_5 l_X8_where_33
    by_cases hc : nI n ≤ nI ki
    · rw [if_pos hc, if_pos hc]
    · have hk : ki < n := by
        rcases Nat.lt_or_ge ki n with q | q
        · exact q
        · exact absurd (nI_le q (by omega)) hc
      rw [if_neg hc, if_neg hc, if_pos (hN ki (Nat.le_refl _) hk), e_pass h hk, ih (ki + 1) _ (by omega) (by omega) (fun k g1 g2 => hN k (by omega) g2)]
theorem w_some (hn8 : n ≤ 8) (x y : Int32) : ∀ (f ki : Nat) (z : Int32), ki ≤ n → n - ki + 1 ≤ f → (∃ k, ki ≤ k ∧ k < n ∧ ¬ f_X0_isOn xs ys k x y = 0) → l_X0_whereIs_5 xs ys n x y f ki z = 1 := by
  intro f
  induction f with
  | zero => intro ki z h1 h2; omega
  | succ f ih =>
    intro ki z h1 h2 hN
    obtain ⟨k, g1, g2, g3⟩ := hN
    unfold l_X0_whereIs_5
    rw [if_neg (nI_ge (by omega) (by omega))]
    by_cases hc : f_X0_isOn xs ys ki x y = 0
    · rw [if_pos hc]
      refine ih (ki + 1) _ (by omega) (by omega) ⟨k, ?_, g2, g3⟩
      rcases Nat.eq_or_lt_of_le g1 with q | q
      · subst q; exact absurd hc g3
      · exact q
    · rw [if_neg hc]
theorem wm_none (h : RA fu fv xs ys n nw) (x y : Int32) : ∀ (f ki : Nat), ki ≤ n → n - ki + 1 ≤ f → (∀ k, ki ≤ k → k < n → f_X0_isOn xs ys k x y = 0) → l_X8_where_2 nw x y n f ki = (if l_X8_where_33 nw x y n (n + 1) 0 0 = 0 then 0 else 2) := by
  have hn8 := h.2.2.1
  intro f
  induction f with
  | zero => intro ki h1 h2; omega
  | succ f ih =>
    intro ki h1 h2 hN
    unfold l_X8_where_2
    by_cases hc : nI n ≤ nI ki
    · rw [if_pos hc]
    · have hk : ki < n := by
        rcases Nat.lt_or_ge ki n with q | q
        · exact q
        · exact absurd (nI_le q (by omega)) hc
      rw [if_neg hc, e_isOn h (by omega), md_lt hk, if_pos (hN ki (Nat.le_refl _) hk), ih (ki + 1) (by omega) (by omega) (fun k g1 g2 => hN k (by omega) g2)]
theorem wm_some (h : RA fu fv xs ys n nw) (x y : Int32) : ∀ (f ki : Nat), ki ≤ n → n - ki + 1 ≤ f → (∃ k, ki ≤ k ∧ k < n ∧ ¬ f_X0_isOn xs ys k x y = 0) → l_X8_where_2 nw x y n f ki = 1 := by
  have hn8 := h.2.2.1
  intro f
  induction f with
  | zero => intro ki h1 h2; omega
  | succ f ih =>
    intro ki h1 h2 hN
    obtain ⟨k, g1, g2, g3⟩ := hN
    unfold l_X8_where_2
    rw [if_neg (nI_ge (by omega) (by omega)), e_isOn h (by omega), md_lt (by omega)]
    by_cases hc : f_X0_isOn xs ys ki x y = 0
    · rw [if_pos hc]
      refine ih (ki + 1) (by omega) (by omega) ⟨k, ?_, g2, g3⟩
      rcases Nat.eq_or_lt_of_le g1 with q | q
      · subst q; exact absurd hc g3
      · exact q
    · rw [if_neg hc]
theorem e_where (h : RA fu fv xs ys n nw) (x y : Int32) : f_X8_where nw x y n = f_X0_whereIs xs ys n x y := by
  have hn8 := h.2.2.1
  unfold f_X8_where f_X0_whereIs
  by_cases hN : ∃ k, 0 ≤ k ∧ k < n ∧ ¬ f_X0_isOn xs ys k x y = 0
  · rw [wm_some h x y _ _ (Nat.zero_le _) (by omega) hN, w_some hn8 x y _ _ _ (Nat.zero_le _) (by omega) hN]
  · have hN2 : ∀ k, 0 ≤ k → k < n → f_X0_isOn xs ys k x y = 0 := fun k g1 g2 => Classical.byContradiction (fun g3 => hN ⟨k, g1, g2, g3⟩)
    rw [wm_none h x y _ _ (Nat.zero_le _) (by omega) hN2, w_none h x y _ _ _ (Nat.zero_le _) (by omega) hN2]
end SIMPLE
