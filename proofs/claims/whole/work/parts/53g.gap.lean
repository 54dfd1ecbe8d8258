/-! the picked cells told by gaps -/
def yk_gap : va_W → List Nat → va_W → va_W
  | _ :: X, 0 :: gs, y :: ys => y :: yk_gap X gs ys
  | x :: X, (g + 1) :: gs, ys => x :: yk_gap X (g :: gs) ys
  | X, _, _ => X
def yk_sel : va_W → List Nat → va_W
  | x :: X, 0 :: gs => x :: yk_sel X gs
  | _ :: X, (g + 1) :: gs => yk_sel X (g :: gs)
  | _, _ => []
def yk_abs : Nat → List Nat → List Nat
  | _, [] => []
  | k, g :: gs => (k + g) :: yk_abs (k + g + 1) gs
theorem yk_absS (k g : Nat) (gs : List Nat) : yk_abs k ((g + 1) :: gs) = yk_abs (k + 1) (g :: gs) := by
  show (k + (g + 1)) :: yk_abs (k + (g + 1) + 1) gs = (k + 1 + g) :: yk_abs (k + 1 + g + 1) gs
  rw [show k + (g + 1) = k + 1 + g by omega]
theorem yk_repS (gs : List Nat) : ∀ (k : Nat) (x : Nat × va_E) (X ys : va_W), yk_rep (x :: X) (yk_abs (k + 1) gs) ys = x :: yk_rep X (yk_abs k gs) ys := by
  induction gs with
  | nil => intro k x X ys; cases ys <;> rfl
  | cons g gs ih =>
    intro k x X ys
    cases ys with
    | nil => rfl
    | cons y ys =>
      show yk_rep ((x :: X).set (k + 1 + g) y) (yk_abs (k + 1 + g + 1) gs) ys = x :: yk_rep (X.set (k + g) y) (yk_abs (k + g + 1) gs) ys
      rw [show k + 1 + g = (k + g) + 1 by omega]
      exact ih (k + g + 1) x (X.set (k + g) y) ys
theorem yk_gapE : ∀ (X : va_W) (gs : List Nat) (ys : va_W), (yk_sel X gs).length = gs.length → ys.length = gs.length → yk_gap X gs ys = yk_rep X (yk_abs 0 gs) ys
  | [], [], ys, _, _ => by cases ys <;> rfl
  | [], g :: gs, ys, h, _ => by simp [yk_sel] at h
  | x :: X, [], ys, _, _ => by cases ys <;> rfl
  | x :: X, 0 :: gs, [], _, h => by simp at h
  | x :: X, 0 :: gs, y :: ys, h, h2 => by
    have h3 : (yk_sel X gs).length = gs.length := Nat.succ.inj h
    have h4 := yk_gapE X gs ys h3 (Nat.succ.inj h2)
    show y :: yk_gap X gs ys = yk_rep (y :: X) (yk_abs (0 + 0 + 1) gs) ys
    rw [h4]
    exact (yk_repS gs 0 y X ys).symm
  | x :: X, (g + 1) :: gs, ys, h, h2 => by
    have h4 := yk_gapE X (g :: gs) ys h h2
    rw [yk_absS, yk_repS, ← h4]
    cases ys <;> rfl
theorem yk_getS (gs : List Nat) : ∀ (k : Nat) (x : Nat × va_E) (X : va_W), (yk_abs (k + 1) gs).map (fun i => (x :: X)[i]?) = (yk_abs k gs).map (fun i => X[i]?) := by
  induction gs with
  | nil => intro k x X; rfl
  | cons g gs ih =>
    intro k x X
    show (x :: X)[k + 1 + g]? :: (yk_abs (k + 1 + g + 1) gs).map (fun i => (x :: X)[i]?) = X[k + g]? :: (yk_abs (k + g + 1) gs).map (fun i => X[i]?)
    rw [show k + 1 + g = (k + g) + 1 by omega, ih (k + g + 1) x X]
    rfl
theorem yk_selE : ∀ (X : va_W) (gs : List Nat), (yk_sel X gs).length = gs.length → (yk_abs 0 gs).map (fun i => X[i]?) = (yk_sel X gs).map some
  | [], [], _ => rfl
  | [], g :: gs, h => by simp [yk_sel] at h
  | x :: X, [], _ => rfl
  | x :: X, 0 :: gs, h => by
    have h4 := yk_selE X gs (Nat.succ.inj h)
    show (x :: X)[0 + 0]? :: (yk_abs (0 + 0 + 1) gs).map (fun i => (x :: X)[i]?) = some x :: (yk_sel X gs).map some
    rw [← h4]
    exact congrArg (fun z => some x :: z) (yk_getS gs 0 x X)
  | x :: X, (g + 1) :: gs, h => by
    have h4 := yk_selE X (g :: gs) h
    rw [yk_absS, yk_getS, h4]
    rfl
section YGP
variable {l : Launch} {D : va_G} {cl : List vw_C} {tys : List (ClassId × FieldType)} {y : MethodName} {ws : List Cond} {fr lo : Nat} {av : List Value} {W0 W1 wc w1 X X1 Y Y1 : va_W} {r : Int32}
theorem yk_lenF {a b : va_W} (h : a.map (fun x => x.1) = b.map (fun x => x.1)) : a.length = b.length := by
  have := congrArg List.length h
  rwa [List.length_map, List.length_map] at this
theorem yk_frG (h : yk_Ci l D cl tys y ws fr lo av wc r w1) (gs : List Nat) (hn : va_nd (yk_abs 0 gs) = true) (hC : yk_sel W0 gs = wc) (hl : wc.length = gs.length) (hw : w1.map (fun x => x.1) = wc.map (fun x => x.1)) (hg : yk_gap W0 gs w1 = W1) : yk_Ci l D cl tys y ws fr lo av W0 r W1 := by
  subst hC
  rw [← hg, yk_gapE W0 gs w1 hl ((yk_lenF hw).trans hl)]
  exact yk_frI h (yk_abs 0 gs) hn (yk_selE W0 gs hl) hw
theorem yk_frH (h : yk_Ci l D cl tys y ws fr lo av (wc ++ Y) r (w1 ++ Y1)) (gs : List Nat) (hn : va_nd (yk_abs 0 gs) = true) (hC : yk_sel X gs = wc) (hl : wc.length = gs.length) (hw : w1.map (fun x => x.1) = wc.map (fun x => x.1)) (hy : Y1.map (fun x => x.1) = Y.map (fun x => x.1)) (hg : yk_gap X gs w1 = X1) : yk_Ci l D cl tys y ws fr lo av (X ++ Y) r (X1 ++ Y1) := by
  subst hC
  rw [← hg, yk_gapE X gs w1 hl ((yk_lenF hw).trans hl)]
  exact yk_frT h (yk_abs 0 gs) hn (yk_selE X gs hl) hw hy
end YGP
