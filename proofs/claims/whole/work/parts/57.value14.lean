/-! the least that is to be shifted from a departure on, and the plan that counts -/
def oMin : Option Nat → Option Nat → Option Nat
  | none, b => b
  | some a, none => some a
  | some a, some b => some (if b < a then b else a)
def oF (g : pL → Option Nat) (l : List pL) (o : Option Nat) : Option Nat := l.foldl (fun acc M => oMin acc (g M)) o
def bo (A : Nat → List pL) : Nat → Nat → pL → Option Nat
  | 0, _, _ => some 0
  | n + 1, p, L => oF (fun M => (bo A n (p + 1) M).map (fun v => v + cost L M)) (A p) none
theorem oF_cons (g : pL → Option Nat) (M : pL) (l : List pL) (o : Option Nat) : oF g (M :: l) o = oF g l (oMin o (g M)) := rfl
theorem oF_snoc (g : pL → Option Nat) (M : pL) (l : List pL) (o : Option Nat) : oF g (l ++ [M]) o = oMin (oF g l o) (g M) := by
  unfold oF
  rw [List.foldl_append]
  rfl
theorem oMin_some {a b : Option Nat} {m : Nat} (h : oMin a b = some m) : (a = some m ∨ b = some m) ∧ (∀ v, a = some v → m ≤ v) ∧ ∀ v, b = some v → m ≤ v := by
  cases a with
  | none =>
    have h : b = some m := h
    exact ⟨Or.inr h, fun v e => (by cases e), fun v e => by rw [h] at e; cases e; exact Nat.le_refl _⟩
  | some x =>
    cases b with
    | none =>
      have h : some x = some m := h
      exact ⟨Or.inl h, fun v e => by rw [h] at e; cases e; exact Nat.le_refl _, fun v e => (by cases e)⟩
    | some y =>
      have h : some (if y < x then y else x) = some m := h
      cases h
      refine ⟨?_, fun v e => ?_, fun v e => ?_⟩
      · split
        · exact Or.inr rfl
        · exact Or.inl rfl
      · cases e; split <;> omega
      · cases e; split <;> omega
theorem oMin_none {a b : Option Nat} : oMin a b = none ↔ a = none ∧ b = none := by
  cases a with
  | none => exact ⟨fun h => ⟨rfl, h⟩, fun h => h.2⟩
  | some x =>
    cases b with
    | none => exact ⟨fun h => absurd h (by simp [oMin]), fun h => absurd h.1 (by simp)⟩
    | some y => exact ⟨fun h => absurd h (by simp [oMin]), fun h => absurd h.1 (by simp)⟩
theorem oF_some (g : pL → Option Nat) : ∀ (l : List pL) (o : Option Nat) (m : Nat), oF g l o = some m → (o = some m ∨ ∃ M ∈ l, g M = some m) ∧ (∀ v, o = some v → m ≤ v) ∧ ∀ M ∈ l, ∀ v, g M = some v → m ≤ v := by
  intro l
  induction l with
  | nil =>
    intro o m h
    have h : o = some m := h
    exact ⟨Or.inl h, fun v e => (by rw [h] at e; cases e; exact Nat.le_refl _), fun M hM => absurd hM List.not_mem_nil⟩
  | cons M l ih =>
    intro o m h
    rw [oF_cons] at h
    obtain ⟨i1, i2, i3⟩ := ih _ m h
    have key : ∀ v, (o = some v ∨ g M = some v) → m ≤ v := by
      intro v hv
      cases hq : oMin o (g M) with
      | none =>
        obtain ⟨z1, z2⟩ := oMin_none.mp hq
        rcases hv with hv | hv
        · rw [z1] at hv; cases hv
        · rw [z2] at hv; cases hv
      | some w =>
        obtain ⟨_, j2, j3⟩ := oMin_some hq
        have := i2 w hq
        rcases hv with hv | hv
        · exact Nat.le_trans this (j2 v hv)
        · exact Nat.le_trans this (j3 v hv)
    refine ⟨?_, fun v e => key v (Or.inl e), fun N hN v e => ?_⟩
    · rcases i1 with i1 | ⟨N, hN, e⟩
      · rcases (oMin_some i1).1 with z | z
        · exact Or.inl z
        · exact Or.inr ⟨M, List.mem_cons_self .., z⟩
      · exact Or.inr ⟨N, List.mem_cons_of_mem _ hN, e⟩
    · rcases List.mem_cons.mp hN with rfl | hN
      · exact key v (Or.inr e)
      · exact i3 N hN v e
theorem oF_none (g : pL → Option Nat) : ∀ (l : List pL) (o : Option Nat), oF g l o = none ↔ o = none ∧ ∀ M ∈ l, g M = none := by
  intro l
  induction l with
  | nil => intro o; exact ⟨fun h => ⟨h, fun M hM => absurd hM List.not_mem_nil⟩, fun h => h.1⟩
  | cons M l ih =>
    intro o
    rw [oF_cons, ih, oMin_none]
    constructor
    · rintro ⟨⟨h1, h2⟩, h3⟩
      refine ⟨h1, fun N hN => ?_⟩
      rcases List.mem_cons.mp hN with rfl | hN
      · exact h2
      · exact h3 N hN
    · rintro ⟨h1, h2⟩
      exact ⟨⟨h1, h2 M (List.mem_cons_self ..)⟩, fun N hN => h2 N (List.mem_cons_of_mem _ hN)⟩
theorem bo_none {A : Nat → List pL} : ∀ (n p : Nat) (L : pL), (∃ q, p ≤ q ∧ q < p + n ∧ A q = []) → bo A n p L = none := by
  intro n
  induction n with
  | zero => rintro p L ⟨q, h1, h2, _⟩; omega
  | succ n ih =>
    rintro p L ⟨q, h1, h2, h3⟩
    rw [bo, oF_none]
    refine ⟨rfl, fun M hM => ?_⟩
    by_cases e : q = p
    · rw [e] at h3
      rw [h3] at hM
      exact absurd hM List.not_mem_nil
    · rw [ih (p + 1) M ⟨q, by omega, by omega, h3⟩]
      rfl
theorem bo_ex {A : Nat → List pL} : ∀ (n p : Nat) (L : pL), (∀ q, p ≤ q → q < p + n → ¬ A q = []) → ∃ m, bo A n p L = some m ∧ m ≤ 5 * n := by
  intro n
  induction n with
  | zero => intro p L _; exact ⟨0, rfl, Nat.le_refl _⟩
  | succ n ih =>
    intro p L h
    rw [bo]
    cases hq : oF (fun M => (bo A n (p + 1) M).map (fun v => v + cost L M)) (A p) none with
    | none =>
      have h1 := (oF_none _ _ _).mp hq
      cases hA : A p with
      | nil => exact absurd hA (h p (Nat.le_refl _) (by omega))
      | cons M l =>
        have h2 := h1.2 M (by rw [hA]; exact List.mem_cons_self ..)
        obtain ⟨m, e, _⟩ := ih (p + 1) M (fun q a b => h q (by omega) (by omega))
        rw [e] at h2
        cases h2
    | some m =>
      refine ⟨m, rfl, ?_⟩
      obtain ⟨i1, _, _⟩ := oF_some _ _ _ _ hq
      rcases i1 with i1 | ⟨M, hM, e⟩
      · cases i1
      · obtain ⟨v, e1, e2⟩ := ih (p + 1) M (fun q a b => h q (by omega) (by omega))
        rw [e1] at e
        have e : some (v + cost L M) = some m := e
        cases e
        have := cost_le5 L M
        omega
theorem bo_top {A : Nat → List pL} {n m : Nat} (h : ∀ q, q < n + 1 → ¬ A q = []) (e : bo A (n + 1) 0 pE = some m) : m ≤ 5 * n := by
  rw [bo] at e
  obtain ⟨i1, _, _⟩ := oF_some _ _ _ _ e
  rcases i1 with i1 | ⟨M, hM, e⟩
  · cases i1
  · obtain ⟨v, e1, e2⟩ := bo_ex n (0 + 1) M (fun q a b => h q (by omega))
    rw [e1] at e
    have e : some (v + cost pE M) = some m := e
    cases e
    rw [cost_pE]
    omega
/-- an arrangement of a departure -/
def arr (du : Nat → Bool) (T : Nat) (M : pL) : Prop := pOk M T ∧ (∀ b, ct M b ≤ 1) ∧ ∀ b, pHas M b ↔ b < 5 ∧ du b = true
/-- a departure with the same boxes behind it: what is to be shifted is the same -/
theorem bo_same {A : Nat → List pL} {du : Nat → Nat → Bool} {T n p : Nat} (hn : ∀ q, p ≤ q → q < p + (n + 1) → ¬ A q = []) (hA : ∀ q, p ≤ q → q < p + (n + 1) → ∀ M ∈ A q, arr (du q) T M) {L : pL} (hL : L ∈ A p) : bo A (n + 1) p L = bo A n (p + 1) L := by
  obtain ⟨m, e, _⟩ := bo_ex (n + 1) p L hn
  obtain ⟨v, e1, _⟩ := bo_ex n (p + 1) L (fun q a b => hn q (by omega) (by omega))
  rw [e, e1]
  rw [bo] at e
  obtain ⟨i1, _, i3⟩ := oF_some _ _ _ _ e
  have aL := hA p (Nat.le_refl _) (by omega) L hL
  have u1 : m ≤ v := by
    have := i3 L hL (v + cost L L) (by rw [e1]; rfl)
    rw [cost_self aL.1 aL.2.1] at this
    exact this
  have u2 : v ≤ m := by
    rcases i1 with i1 | ⟨M, hM, e2⟩
    · cases i1
    · have aM := hA p (Nat.le_refl _) (by omega) M hM
      obtain ⟨w, e3, _⟩ := bo_ex n (p + 1) M (fun q a b => hn q (by omega) (by omega))
      rw [e3] at e2
      have e2 : some (w + cost L M) = some m := e2
      cases e2
      cases n with
      | zero =>
        have e1 : some 0 = some v := e1
        cases e1
        exact Nat.zero_le _
      | succ n =>
        rw [bo] at e3 e1
        obtain ⟨j1, _, _⟩ := oF_some _ _ _ _ e3
        rcases j1 with j1 | ⟨N, hN, e4⟩
        · cases j1
        · have aN := hA (p + 1) (by omega) (by omega) N hN
          obtain ⟨x, e5, _⟩ := bo_ex n (p + 1 + 1) N (fun q a b => hn q (by omega) (by omega))
          rw [e5] at e4
          have e4 : some (x + cost M N) = some w := e4
          cases e4
          have k := (oF_some _ _ _ _ e1).2.2 N hN (x + cost L N) (by rw [e5]; rfl)
          have t := cost_tri aL.1 aM.1 aN.1 aL.2.1 aM.2.1 (fun b => (aL.2.2 b).trans (aM.2.2 b).symm)
          omega
  rw [Nat.le_antisymm u1 u2]
/-- how the lists lie behind each other: a departure with the same boxes as the one before shares its list -/
def lay (st : Nat → Nat) (A : Nat → List pL) (D : Nat) : Prop := ∀ p, p + 1 < D → (st (p + 1) = st p ∧ A (p + 1) = A p) ∨ st (p + 1) = st p + (A p).length
theorem lay_mono {st : Nat → Nat} {A : Nat → List pL} {D : Nat} (h : lay st A D) : ∀ n p, p + n < D → st p ≤ st (p + n) := by
  intro n
  induction n with
  | zero => intro p _; exact Nat.le_refl _
  | succ n ih =>
    intro p hp
    have := ih p (by omega)
    rcases h (p + n) (by omega) with ⟨e, _⟩ | e
    · rw [← Nat.add_assoc, e]; exact this
    · rw [← Nat.add_assoc, e]; omega
/-- behind a departure -/
def bh (A : Nat → List pL) (D p : Nat) (M : pL) : Option Nat := bo A (D - 1 - p) (p + 1) M
theorem bh_share {A : Nat → List pL} {du : Nat → Nat → Bool} {T D : Nat} {st : Nat → Nat} (hl : lay st A D) (hn : ∀ q, q < D → ¬ A q = []) (hA : ∀ q, q < D → ∀ M ∈ A q, arr (du q) T M) : ∀ n p i j, p + n < D → (hi : i < (A p).length) → (hj : j < (A (p + n)).length) → st p + i = st (p + n) + j → bh A D p ((A p)[i]) = bh A D (p + n) ((A (p + n))[j]) := by
  intro n
  induction n with
  | zero =>
    intro p i j hp hi hj e
    have : i = j := by
      have e : st p + i = st p + j := e
      omega
    subst this
    rfl
  | succ n ih =>
    intro p i j hp hi hj e
    rcases hl p (by omega) with ⟨e1, e2⟩ | e1
    · have hi' : i < (A (p + 1)).length := by rw [e2]; exact hi
      have r := ih (p + 1) i j (by omega) hi' (by simpa only [Nat.add_assoc, Nat.add_comm 1 n] using hj) (by rw [e1, e]; simp only [Nat.add_assoc, Nat.add_comm 1 n])
      have e3 : (A (p + 1))[i] = (A p)[i] := by simp only [e2]
      have e4 : bh A D p ((A p)[i]) = bh A D (p + 1) ((A (p + 1))[i]) := by
        rw [e3]
        unfold bh
        rw [show D - 1 - p = (D - 1 - (p + 1)) + 1 by omega]
        refine bo_same (du := du) (T := T) (fun q a b => hn q (by omega)) (fun q a b => hA q (by omega)) ?_
        rw [e2]
        exact List.getElem_mem hi
      rw [e4, r]
      simp only [Nat.add_assoc, Nat.add_comm 1 n]
    · have := lay_mono hl n (p + 1) (by omega)
      rw [show p + 1 + n = p + (n + 1) by omega] at this
      omega
/-- the plan that counts -/
def isB (A : Nat → List pL) (n p : Nat) (L M : pL) : Bool := decide ((bo A n (p + 1) M).map (fun v => v + cost L M) = bo A (n + 1) p L)
def pick (A : Nat → List pL) : Nat → Nat → pL → List pL
  | 0, _, _ => []
  | n + 1, p, L => match (A p).find? (isB A n p L) with
    | some M => M :: pick A n (p + 1) M
    | none => []
theorem pick_ex {A : Nat → List pL} {n p m : Nat} {L : pL} (h : bo A (n + 1) p L = some m) : ∃ M, (A p).find? (isB A n p L) = some M ∧ M ∈ A p := by
  have e := h
  rw [bo] at e
  obtain ⟨i1, _, _⟩ := oF_some _ _ _ _ e
  rcases i1 with i1 | ⟨M, hM, e⟩
  · cases i1
  · cases hq : (A p).find? (isB A n p L) with
    | none =>
      have := List.find?_eq_none.mp hq M hM
      exact absurd (decide_eq_true (e.trans h.symm)) this
    | some N => exact ⟨N, rfl, List.mem_of_find?_eq_some hq⟩
