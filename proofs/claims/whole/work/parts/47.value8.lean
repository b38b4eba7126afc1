/-! the boxes due: class and model see the same -/
abbrev dueP (sa : Nat → Nat → Int32) (q : Int32) (b : Nat) : Prop := sa 5 b = 0 ∧ sa 1 b ≤ q ∧ q < sa 2 b
def fdueN (sa : Nat → Nat → Int32) (q : Int32) : Nat → Nat
  | 0 => 0
  | j + 1 => if sa 5 j = 0 ∧ sa 1 j ≤ q ∧ q < sa 2 j then fdueN sa q j ||| 2 ^ j else fdueN sa q j
theorem fdueN_ok (sa : Nat → Nat → Int32) (q : Int32) : ∀ n, n ≤ 5 → fdue sa q n = nI (fdueN sa q n) ∧ fdueN sa q n < 32 ∧ ∀ b, ((fdueN sa q n).testBit b = true ↔ b < n ∧ dueP sa q b) := by
  intro n
  induction n with
  | zero => intro _; exact ⟨rfl, (show (0 : Nat) < 32 from by decide), fun b => ⟨fun h => by simp [fdueN] at h, fun ⟨h, _⟩ => by omega⟩⟩
  | succ n ih =>
    intro hn
    obtain ⟨i1, i2, i3⟩ := ih (by omega)
    rw [fdue, fdueN]
    by_cases h : sa 5 n = 0 ∧ sa 1 n ≤ q ∧ q < sa 2 n
    · rw [if_pos h, if_pos h, i1]
      obtain ⟨u1, u2⟩ := mk_or ⟨fdueN sa q n, i2⟩ ⟨n, by omega⟩
      refine ⟨u1, u2, fun b => ?_⟩
      rw [Nat.testBit_or, Bool.or_eq_true, Nat.testBit_two_pow, decide_eq_true_eq, i3 b]
      constructor
      · rintro (z | z)
        · exact ⟨by omega, z.2⟩
        · rw [← z]; exact ⟨by omega, h⟩
      · rintro ⟨z1, z2⟩
        by_cases hb : n = b
        · exact Or.inr hb
        · exact Or.inl ⟨by omega, z2⟩
    · rw [if_neg h, if_neg h]
      refine ⟨i1, i2, fun b => (i3 b).trans ⟨fun z => ⟨by omega, z.2⟩, fun z => ⟨?_, z.2⟩⟩⟩
      by_cases hb : b = n
      · rw [hb] at z; exact absurd z.2 h
      · omega
theorem msk_eq {x y : Nat} (hx : x < 32) (hy : y < 32) : x = y ↔ ∀ b, b < 5 → (x.testBit b = true ↔ y.testBit b = true) := by
  constructor
  · intro e b _; rw [e]
  · intro h
    refine Nat.eq_of_testBit_eq fun i => ?_
    by_cases hi : i < 5
    · exact Bool.eq_iff_iff.mpr (h i hi)
    · have p5 : (32 : Nat) ≤ 2 ^ i := Nat.pow_le_pow_right (n := 2) (by decide) (show 5 ≤ i by omega)
      rw [Nat.testBit_lt_two_pow (by omega), Nat.testBit_lt_two_pow (by omega)]
theorem fM_all_iff (mi f : Nat → Int32) (ma : Nat → Nat → Int32) (q : Int32) : ∀ n, ¬ fM_all mi f ma q n = 0 ↔ ∀ b, b < n → fM_ab mi ma b q = fM_in f (nI b) 9 := by
  intro n
  induction n with
  | zero => rw [fM_all]; exact ⟨fun _ b h => by omega, fun _ => by decide⟩
  | succ n ih =>
    rw [fM_all]
    split
    · next h =>
      refine ⟨fun _ b hb => ?_, fun _ => by decide⟩
      by_cases hn : b = n
      · rw [hn]; exact h.2
      · exact ih.mp h.1 b (by omega)
    · next h =>
      refine ⟨fun z => absurd rfl z, fun z => absurd ?_ h⟩
      exact ⟨ih.mpr (fun b hb => z b (by omega)), z n (by omega)⟩
theorem in01 (f : Nat → Int32) (x : Int32) (n : Nat) : fM_in f x n = 0 ∨ fM_in f x n = 1 := by
  cases n with
  | zero => exact Or.inl rfl
  | succ n =>
    rw [fM_in]
    split
    · exact Or.inr rfl
    · exact Or.inl rfl
theorem due_eq {si mi : Nat → Int32} {sa ma : Nat → Nat → Int32} {L : pL} {T B : Nat} (hL : pOk L T) (hT : T ≤ 3) (hB : si 7 = nI B) (hB5 : B ≤ 5) (e8 : mi 8 = si 7) (a1 : ma 1 = sa 1) (a2 : ma 2 = sa 2) (a5 : ma 5 = sa 5) (q : Int32) :
    fab (sM L) 9 = fdue sa q B ↔ ¬ fM_all mi (sM L) ma q 5 = 0 := by
  obtain ⟨i1, i2, i3⟩ := fabN_ok (sM L) 9 (sM_two hL)
  obtain ⟨j1, j2, j3⟩ := fdueN_ok sa q B hB5
  have w : fab (sM L) 9 = fdue sa q B ↔ fabN (sM L) 9 = fdueN sa q B := by
    rw [i1, j1]
    exact ⟨fun z => nI_inj (by omega) (by omega) z, fun z => by rw [z]⟩
  rw [w, msk_eq i2 j2, fM_all_iff]
  refine forall_congr' fun b => ?_
  refine forall_congr' fun hb => ?_
  rw [i3 b hb, j3 b, ← fM_in_iff]
  have ab : fM_ab mi ma b q = if b < B ∧ dueP sa q b then 1 else 0 := by
    unfold fM_ab
    rw [e8, hB, a1, a2, a5]
    by_cases h : b < B
    · have hh : nI b < nI B := nI_lt h (by omega)
      simp only [hh, h, true_and]
    · have hh : ¬ nI b < nI B := nI_nlt (by omega) (by omega)
      simp only [hh, h, false_and]
  rw [ab]
  rcases in01 (sM L) (nI b) 9 with z | z
  · rw [z]
    by_cases h : b < B ∧ dueP sa q b
    · rw [if_pos h]
      exact ⟨fun y => absurd rfl (y.mpr h), fun y => absurd y (by decide)⟩
    · rw [if_neg h]
      exact ⟨fun _ => rfl, fun _ => ⟨fun y => absurd rfl y, fun y => absurd y h⟩⟩
  · rw [z]
    by_cases h : b < B ∧ dueP sa q b
    · rw [if_pos h]
      exact ⟨fun _ => rfl, fun _ => ⟨fun _ => h, fun _ => by decide⟩⟩
    · rw [if_neg h]
      exact ⟨fun y => absurd (y.mp (by decide)) h, fun y => absurd y (by decide)⟩
