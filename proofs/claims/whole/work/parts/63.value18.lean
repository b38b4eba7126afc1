/-! the departures' boxes, the lists behind each other, room for them -/
def duP (sa : Nat → Nat → Int32) (B p : Nat) (b : Nat) : Bool := decide (b < B ∧ dueP sa (nI p) b)
theorem duP_iff {sa : Nat → Nat → Int32} {B p b : Nat} : duP sa B p b = true ↔ b < B ∧ dueP sa (nI p) b := by
  unfold duP
  exact decide_eq_true_iff
theorem pE_has (b : Nat) : ¬ pHas pE b := fun h => by rcases h with h | h | h <;> exact absurd h List.not_mem_nil
/-- the lists shared -/
def shd (sa : Nat → Nat → Int32) (B p : Nat) : Bool := decide (0 < p ∧ fdueN sa (nI (p - 1)) B = fdueN sa (nI p) B)
theorem shd_du {sa : Nat → Nat → Int32} {B p : Nat} (hB : B ≤ 5) : shd sa B p = true ↔ 0 < p ∧ duP sa B (p - 1) = duP sa B p := by
  unfold shd
  rw [decide_eq_true_eq]
  refine and_congr Iff.rfl ?_
  obtain ⟨_, i2, i3⟩ := fdueN_ok sa (nI (p - 1)) B hB
  obtain ⟨_, j2, j3⟩ := fdueN_ok sa (nI p) B hB
  rw [msk_eq i2 j2]
  constructor
  · intro h
    funext b
    by_cases hb : b < 5
    · have := h b hb
      rw [i3, j3] at this
      unfold duP
      exact decide_eq_decide.mpr this
    · unfold duP
      rw [decide_eq_false (by omega), decide_eq_false (by omega)]
  · intro h b _
    rw [i3, j3, ← duP_iff, ← duP_iff, h]
def nnL (A : Nat → List pL) (sh : Nat → Bool) : Nat → Nat
  | 0 => 0
  | j + 1 => if sh j = true then nnL A sh j else nnL A sh j + (A j).length
def stL (A : Nat → List pL) (sh : Nat → Bool) (j : Nat) : Nat := nnL A sh (j + 1) - (A j).length
theorem nnL_ge {A : Nat → List pL} {sh : Nat → Bool} (hs : ∀ j, sh j = true → 0 < j ∧ A j = A (j - 1)) : ∀ j, (A j).length ≤ nnL A sh (j + 1) := by
  intro j
  induction j with
  | zero =>
    rw [nnL]
    by_cases h : sh 0 = true
    · have := (hs 0 h).1; omega
    · rw [if_neg h]; omega
  | succ j ih =>
    rw [nnL]
    by_cases h : sh (j + 1) = true
    · rw [if_pos h, (hs _ h).2]; exact ih
    · rw [if_neg h]; omega
theorem stL_end {A : Nat → List pL} {sh : Nat → Bool} (hs : ∀ j, sh j = true → 0 < j ∧ A j = A (j - 1)) (j : Nat) : stL A sh j + (A j).length = nnL A sh (j + 1) := by
  have := nnL_ge hs j
  unfold stL
  omega
theorem stL_sh {A : Nat → List pL} {sh : Nat → Bool} (hs : ∀ j, sh j = true → 0 < j ∧ A j = A (j - 1)) {j : Nat} (h : sh (j + 1) = true) : stL A sh (j + 1) = stL A sh j := by
  have e := (hs _ h).2
  rw [Nat.add_sub_cancel] at e
  unfold stL
  rw [nnL, if_pos h, e]
theorem stL_new {A : Nat → List pL} {sh : Nat → Bool} {j : Nat} (h : ¬ sh j = true) : stL A sh j = nnL A sh j := by
  unfold stL
  rw [nnL, if_neg h]
  omega
theorem stL_lay {A : Nat → List pL} {sh : Nat → Bool} (hs : ∀ j, sh j = true → 0 < j ∧ A j = A (j - 1)) (D : Nat) : lay (stL A sh) A D := by
  intro p _
  by_cases h : sh (p + 1) = true
  · refine Or.inl ⟨stL_sh hs h, ?_⟩
    have e := (hs _ h).2
    rw [Nat.add_sub_cancel] at e
    exact e
  · refine Or.inr ?_
    rw [stL_new h, stL_end hs]
theorem wt5_le (du : Nat → Bool) (L : pL) : wt5 du L ≤ 5 := by
  unfold wt5
  exact Nat.le_trans List.countP_le_length (by decide)
theorem wt5_E {du : Nat → Bool} (h : wt5 du pE = 5) : ∀ b, b < 5 → du b = true := by
  unfold wt5 at h
  have h2 : (List.range 5).countP (fun b => du b && !decide (pHas pE b)) = (List.range 5).length := h
  rw [List.countP_eq_length] at h2
  intro b hb
  have := h2 b (List.mem_range.mpr hb)
  rw [Bool.and_eq_true] at this
  exact this.1
theorem eNum_le {w : Nat} (h : w < 5) : eNum 9 true w ≤ 288 := eNum_le4 ⟨w, h⟩
theorem nnL_cap {A : Nat → List pL} {sh : Nat → Bool} {w : Nat → Nat} (hA : ∀ p, (A p).length ≤ eNum 9 true (w p)) (hw : ∀ p, w p ≤ 5) (h5 : ∀ p j, p < j → w p = 5 → w j = 5 → sh j = true) : ∀ j, nnL A sh j ≤ 288 * j ∨ (nnL A sh j ≤ 288 * j + 1152 ∧ ∃ p, p < j ∧ w p = 5) := by
  intro j
  induction j with
  | zero => exact Or.inl (Nat.le_refl _)
  | succ j ih =>
    rw [nnL]
    by_cases h : sh j = true
    · rw [if_pos h]
      rcases ih with i | ⟨i, p, hp, e⟩
      · exact Or.inl (by omega)
      · exact Or.inr ⟨by omega, p, by omega, e⟩
    · rw [if_neg h]
      have a := hA j
      have b := hw j
      by_cases z : w j = 5
      · rw [z, eNum_5] at a
        rcases ih with i | ⟨i, p, hp, e⟩
        · exact Or.inr ⟨by omega, j, by omega, z⟩
        · exact absurd (h5 p j hp e z) h
      · have := eNum_le (show w j < 5 by omega)
        rcases ih with i | ⟨i, p, hp, e⟩
        · exact Or.inl (by omega)
        · exact Or.inr ⟨by omega, p, by omega, e⟩
theorem nnL_2016 {A : Nat → List pL} {sh : Nat → Bool} {w : Nat → Nat} (hA : ∀ p, (A p).length ≤ eNum 9 true (w p)) (hw : ∀ p, w p ≤ 5) (h5 : ∀ p j, p < j → w p = 5 → w j = 5 → sh j = true) (j : Nat) (hj : j ≤ 3) : nnL A sh j ≤ 2016 := by
  rcases nnL_cap hA hw h5 j with i | ⟨i, _⟩ <;> omega
theorem fives {sa : Nat → Nat → Int32} {B : Nat} (hB : B ≤ 5) : ∀ p j, p < j → wt5 (duP sa B p) pE = 5 → wt5 (duP sa B j) pE = 5 → j < 4 → shd sa B j = true := by
  intro p j hp e1 e2 hj
  refine (shd_du hB).mpr ⟨by omega, ?_⟩
  funext b
  by_cases hb : b < 5
  · have d1 := wt5_E e1 b hb
    have d2 := wt5_E e2 b hb
    rw [d2]
    obtain ⟨u1, u2, u3, u4⟩ := duP_iff.mp d1
    obtain ⟨_, _, _, v4⟩ := duP_iff.mp d2
    refine duP_iff.mpr ⟨u1, u2, Int32.le_trans u3 (nI_le (by omega) (by omega)), Int32.lt_of_le_of_lt (nI_le (by omega) (by omega)) v4⟩
  · unfold duP
    rw [decide_eq_false (by omega), decide_eq_false (by omega)]
