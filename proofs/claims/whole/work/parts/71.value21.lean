/-! a least's bound; the first that counts -/
theorem bo_bnd {A : Nat → List pL} : ∀ (n p : Nat) (L : pL) (m : Nat), bo A n p L = some m → m ≤ 5 * n := by
  intro n
  induction n with
  | zero => intro p L m e; cases e; exact Nat.le_refl _
  | succ n ih =>
    intro p L m e
    rw [bo] at e
    obtain ⟨i1, _, _⟩ := oF_some _ _ _ _ e
    rcases i1 with i1 | ⟨M, hM, e⟩
    · cases i1
    · cases hb : bo A n (p + 1) M with
      | none => rw [hb] at e; cases e
      | some v =>
        rw [hb] at e
        have e : some (v + cost L M) = some m := e
        cases e
        have := ih _ _ _ hb
        have := cost_le5 L M
        omega
theorem oF_bnd {A : Nat → List pL} {n p : Nat} {L : pL} {l : List pL} {m : Nat} (e : oF (fun N => (bo A n (p + 1) N).map (fun v => v + cost L N)) l none = some m) : m ≤ 5 * n + 5 := by
  obtain ⟨i1, _, _⟩ := oF_some _ _ _ _ e
  rcases i1 with i1 | ⟨M, hM, e⟩
  · cases i1
  · cases hb : bo A n (p + 1) M with
    | none =>
      have e : (bo A n (p + 1) M).map (fun v => v + cost L M) = some m := e
      rw [hb] at e; cases e
    | some v =>
      have e : (bo A n (p + 1) M).map (fun v => v + cost L M) = some m := e
      rw [hb] at e
      have e : some (v + cost L M) = some m := e
      cases e
      have := bo_bnd _ _ _ _ hb
      have := cost_le5 L M
      omega
theorem find_at {P : pL → Bool} : ∀ (l : List pL) (N : pL), l.find? P = some N → ∃ i, ∃ (h : i < l.length), l[i] = N ∧ P N = true ∧ ∀ j, (hj : j < i) → ¬ P l[j] = true := by
  intro l
  induction l with
  | nil => intro N h; cases h
  | cons a l ih =>
    intro N h
    rw [List.find?_cons] at h
    by_cases ha : P a = true
    · rw [ha] at h
      have h : some a = some N := h
      cases h
      exact ⟨0, Nat.zero_lt_succ _, rfl, ha, fun j hj => absurd hj (Nat.not_lt_zero _)⟩
    · rw [Bool.eq_false_iff.mpr ha] at h
      obtain ⟨i, hi, e1, e2, e3⟩ := ih N h
      refine ⟨i + 1, Nat.succ_lt_succ hi, e1, e2, fun j hj => ?_⟩
      cases j with
      | zero => exact ha
      | succ j => exact e3 j (Nat.lt_of_succ_lt_succ hj)
theorem take_snoc {α : Type} {l : List α} {i : Nat} (h : i < l.length) : l.take (i + 1) = l.take i ++ [l[i]] := by
  rw [List.take_add_one, List.getElem?_eq_getElem h, Option.toList_some]
