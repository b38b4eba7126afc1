/-! what a change costs -/
def kp1 : List Nat → List Nat → Nat
  | a :: l, b :: m => if a = b then kp1 l m + 1 else 0
  | _, _ => 0
def kpt (L M : pL) : Nat := kp1 (L 0) (M 0) + kp1 (L 1) (M 1) + kp1 (L 2) (M 2)
def shr (L M : pL) : Nat := (List.range 5).countP (fun b => decide (pHas L b) && decide (pHas M b))
def cost (L M : pL) : Nat := shr L M - kpt L M
theorem kp1_le : ∀ l m : List Nat, kp1 l m ≤ l.length ∧ kp1 l m ≤ m.length := by
  intro l
  induction l with
  | nil => intro m; rw [kp1]; exact ⟨Nat.zero_le _, Nat.zero_le _⟩; intro _ _ _ _ h; cases h
  | cons a l ih =>
    intro m
    cases m with
    | nil => rw [kp1]; exact ⟨Nat.zero_le _, Nat.zero_le _⟩; intro _ _ _ _ _ h; cases h
    | cons b m =>
      rw [kp1]
      have := ih m
      split
      · rw [List.length_cons, List.length_cons]; omega
      · exact ⟨Nat.zero_le _, Nat.zero_le _⟩
theorem kp1_nil (m : List Nat) : kp1 [] m = 0 := by
  rw [kp1]
  intro _ _ _ _ h; cases h
theorem kp1_nil' (m : List Nat) : kp1 m [] = 0 := by
  have := (kp1_le m []).2
  rw [List.length_nil] at this
  omega
theorem kp1_self : ∀ l : List Nat, kp1 l l = l.length := by
  intro l
  induction l with
  | nil => exact kp1_nil _
  | cons a l ih => rw [kp1, if_pos rfl, ih]; rfl
theorem kp1_tri : ∀ x y z : List Nat, kp1 x y + kp1 y z ≤ y.length + kp1 x z := by
  intro x
  induction x with
  | nil => intro y z; rw [kp1_nil, kp1_nil]; have := kp1_le y z; omega
  | cons a x ih =>
    intro y z
    cases y with
    | nil => rw [kp1_nil', kp1_nil]; omega
    | cons b y =>
      cases z with
      | nil => rw [kp1_nil', kp1_nil']; have := kp1_le (a :: x) (b :: y); omega
      | cons c z =>
        have i := ih y z
        have u1 := kp1_le x y
        have u2 := kp1_le y z
        rw [kp1, kp1, kp1, List.length_cons]
        by_cases h1 : a = b
        · rw [if_pos h1]
          by_cases h2 : b = c
          · rw [if_pos h2, if_pos (h1.trans h2)]; omega
          · rw [if_neg h2]; omega
        · rw [if_neg h1]
          split <;> omega
theorem kp1_take : ∀ l m : List Nat, l.take (kp1 l m) = m.take (kp1 l m) := by
  intro l
  induction l with
  | nil => intro m; rw [kp1_nil]; rfl
  | cons a l ih =>
    intro m
    cases m with
    | nil => rw [kp1_nil']; rfl
    | cons b m =>
      rw [kp1]
      split
      · next h => rw [List.take_succ_cons, List.take_succ_cons, ih m, h]
      · rfl
/-- the boxes of a list, counted box by box -/
theorem len_count : ∀ l : List Nat, (∀ b ∈ l, b < 5) → l.length = l.count 0 + l.count 1 + l.count 2 + l.count 3 + l.count 4 := by
  intro l
  induction l with
  | nil => intro _; rfl
  | cons a l ih =>
    intro h
    have i := ih (fun b hb => h b (List.mem_cons_of_mem _ hb))
    have ha := h a (List.mem_cons_self ..)
    have u : a = 0 ∨ a = 1 ∨ a = 2 ∨ a = 3 ∨ a = 4 := by omega
    rcases u with rfl | rfl | rfl | rfl | rfl <;> simp [List.count_cons] <;> omega
def bn1 (p : Prop) [Decidable p] : Nat := if p then 1 else 0
theorem bn1_le (p : Prop) [Decidable p] : bn1 p ≤ 1 := by unfold bn1; split <;> omega
theorem shr_sum (L M : pL) : shr L M = bn1 (pHas L 0 ∧ pHas M 0) + bn1 (pHas L 1 ∧ pHas M 1) + bn1 (pHas L 2 ∧ pHas M 2) + bn1 (pHas L 3 ∧ pHas M 3) + bn1 (pHas L 4 ∧ pHas M 4) := by
  have e : ∀ (p : Nat → Bool), (List.range 5).countP p = bn1 (p 0 = true) + bn1 (p 1 = true) + bn1 (p 2 = true) + bn1 (p 3 = true) + bn1 (p 4 = true) := by
    intro p
    show [0, 1, 2, 3, 4].countP p = _
    simp only [List.countP_cons, List.countP_nil, bn1]
    omega
  unfold shr
  rw [e]
  simp only [Bool.and_eq_true, decide_eq_true_eq]
theorem shr_le5 (L M : pL) : shr L M ≤ 5 := by
  unfold shr
  exact Nat.le_trans List.countP_le_length (by decide)
/-- what is kept is in both -/
theorem kpt_le {L M : pL} {T T' : Nat} (hL : pOk L T) (hM : pOk M T') (h1 : ∀ b, ct L b ≤ 1) : kpt L M ≤ shr L M := by
  have k : ∀ s, kp1 (L s) (M s) = ((L s).take (kp1 (L s) (M s))).length := by
    intro s
    rw [List.length_take]
    have := kp1_le (L s) (M s)
    omega
  have c : ∀ s, ∀ b ∈ (L s).take (kp1 (L s) (M s)), b < 5 := fun s b hb => hL.box s b ((List.take_sublist _ _).subset hb)
  have n0 := len_count _ (c 0)
  have n1 := len_count _ (c 1)
  have n2 := len_count _ (c 2)
  rw [← k] at n0 n1 n2
  have q : ∀ b, ((L 0).take (kp1 (L 0) (M 0))).count b + ((L 1).take (kp1 (L 1) (M 1))).count b + ((L 2).take (kp1 (L 2) (M 2))).count b ≤ bn1 (pHas L b ∧ pHas M b) := by
    intro b
    have l0 := (List.take_sublist (kp1 (L 0) (M 0)) (L 0)).count_le b
    have l1 := (List.take_sublist (kp1 (L 1) (M 1)) (L 1)).count_le b
    have l2 := (List.take_sublist (kp1 (L 2) (M 2)) (L 2)).count_le b
    have m0 := (List.take_sublist (kp1 (L 0) (M 0)) (M 0)).count_le b
    have m1 := (List.take_sublist (kp1 (L 1) (M 1)) (M 1)).count_le b
    have m2 := (List.take_sublist (kp1 (L 2) (M 2)) (M 2)).count_le b
    rw [← kp1_take] at m0 m1 m2
    have o := h1 b
    have eL : ct L b = (L 0).count b + (L 1).count b + (L 2).count b := rfl
    have eM : ct M b = (M 0).count b + (M 1).count b + (M 2).count b := rfl
    unfold bn1
    split
    · omega
    · next z =>
      rw [ct_has, ct_has] at z
      omega
  rw [shr_sum]
  unfold kpt
  have q0 := q 0
  have q1 := q 1
  have q2 := q 2
  have q3 := q 3
  have q4 := q 4
  omega
def pLen (L : pL) : Nat := (L 0).length + (L 1).length + (L 2).length
theorem pLen_shr {L M : pL} {T : Nat} (hL : pOk L T) (h1 : ∀ b, ct L b ≤ 1) (hs : ∀ b, pHas L b → pHas M b) : shr L M = pLen L := by
  have n0 := len_count _ (hL.box 0)
  have n1 := len_count _ (hL.box 1)
  have n2 := len_count _ (hL.box 2)
  have q : ∀ b, (L 0).count b + (L 1).count b + (L 2).count b = bn1 (pHas L b ∧ pHas M b) := by
    intro b
    have o := h1 b
    have eL : ct L b = (L 0).count b + (L 1).count b + (L 2).count b := rfl
    unfold bn1
    split
    · next z =>
      have := ct_has.mp z.1
      omega
    · next z =>
      have : ¬ 0 < ct L b := fun y => z ⟨ct_has.mpr y, hs b (ct_has.mpr y)⟩
      omega
  rw [shr_sum, ← q 0, ← q 1, ← q 2, ← q 3, ← q 4]
  unfold pLen
  omega
theorem shr_cg {L L' M : pL} (hs : ∀ b, pHas L b ↔ pHas L' b) : shr L M = shr L' M := by
  unfold shr
  simp only [hs]
theorem cost_self {L : pL} {T : Nat} (hL : pOk L T) (h1 : ∀ b, ct L b ≤ 1) : cost L L = 0 := by
  unfold cost
  rw [pLen_shr hL h1 (fun _ h => h)]
  unfold kpt pLen
  rw [kp1_self, kp1_self, kp1_self]
  omega
/-- between two arrangements of the same boxes a third costs no more -/
theorem cost_tri {L M N : pL} {T T' T'' : Nat} (hL : pOk L T) (hM : pOk M T') (hN : pOk N T'') (l1 : ∀ b, ct L b ≤ 1) (m1 : ∀ b, ct M b ≤ 1) (hs : ∀ b, pHas L b ↔ pHas M b) : cost L N ≤ cost L M + cost M N := by
  have e1 : shr L N = shr M N := shr_cg hs
  have e2 : shr L M = shr M M := shr_cg hs
  have e3 := pLen_shr hM m1 (fun _ h => h)
  have k1 := kpt_le hL hM l1
  have k2 := kpt_le hM hN m1
  have t0 := kp1_tri (L 0) (M 0) (N 0)
  have t1 := kp1_tri (L 1) (M 1) (N 1)
  have t2 := kp1_tri (L 2) (M 2) (N 2)
  unfold cost
  unfold kpt at k1 k2 ⊢
  unfold pLen at e3
  omega
theorem cost_le5 (L M : pL) : cost L M ≤ 5 := by
  have := shr_le5 L M
  unfold cost
  omega
theorem cost_pE (M : pL) : cost pE M = 0 := by
  unfold cost
  have : shr pE M = 0 := by
    rw [shr_sum]
    have h : ∀ b, ¬ pHas pE b := fun b h => by rcases h with h | h | h <;> exact absurd h List.not_mem_nil
    simp [bn1, h]
  omega
