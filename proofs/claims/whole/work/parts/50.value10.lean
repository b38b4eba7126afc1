/-! what the model's soundness and fullness look at -/
theorem fM_l_cg {mi mi' f W : Nat → Int32} (e1 : mi 1 = mi' 1) : ∀ n, fM_l mi f W n = fM_l mi' f W n := by
  intro n
  induction n with
  | zero => rfl
  | succ n ih => rw [fM_l, fM_l, ih, e1]
theorem fM_so_cg {mi mi' f : Nat → Int32} {ma ma' : Nat → Nat → Int32} {S : Nat} (e1 : mi 1 = mi' 1) (e4 : mi 4 = mi' 4) (e5 : mi 5 = mi' 5) (e6 : mi 6 = mi' 6) (a0 : ma 0 = ma' 0) (a3 : ma 3 = ma' 3) (a4 : ma 4 = ma' 4) : ∀ n, fM_so mi f ma S n = fM_so mi' f ma' S n := by
  intro n
  induction n with
  | zero => rw [fM_so, fM_so, fM_l_cg e1, a3, e5, e6]
  | succ n ih => rw [fM_so, fM_so, ih, a0, a3, a4, e4]
theorem fM_ab_cg {mi mi' : Nat → Int32} {ma ma' : Nat → Nat → Int32} (e8 : mi 8 = mi' 8) (a1 : ma 1 = ma' 1) (a2 : ma 2 = ma' 2) (a5 : ma 5 = ma' 5) (b : Nat) (q : Int32) : fM_ab mi ma b q = fM_ab mi' ma' b q := by
  unfold fM_ab
  rw [e8, a1, a2, a5]
theorem fM_all_cg {mi mi' f : Nat → Int32} {ma ma' : Nat → Nat → Int32} (e8 : mi 8 = mi' 8) (a1 : ma 1 = ma' 1) (a2 : ma 2 = ma' 2) (a5 : ma 5 = ma' 5) (q : Int32) : ∀ n, fM_all mi f ma q n = fM_all mi' f ma' q n := by
  intro n
  induction n with
  | zero => rfl
  | succ n ih => rw [fM_all, fM_all, ih, fM_ab_cg e8 a1 a2 a5]
