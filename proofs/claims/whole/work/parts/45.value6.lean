/-! moments and soundness: class and model see the same -/
theorem rem3 : ∀ s : Fin 3, ∀ j : Fin 3, nI (3 * s.val + j.val) - nI (3 * s.val + j.val) / 3 * 3 + 1 = nI (j.val + 1) := by decide
theorem fM_v_st {L : pL} {T : Nat} (hL : pOk L T) (hT : T ≤ 3) (W : Nat → Int32) (s : Nat) (hs : s < 3) : ∀ j, j ≤ 3 → fM_v (sM L) W (3 * s + j) = fM_v (sM L) W (3 * s) + pVs W ((L s).take j) 0 := by
  have h0 := hL.len s
  intro j
  induction j with
  | zero => intro _; rw [List.take_zero, pVs]; exact (Int32.add_zero _).symm
  | succ j ih =>
    intro hj
    rw [← Nat.add_assoc, fM_v, ih (by omega)]
    by_cases h3 : (L s).length ≤ j
    · rw [if_pos ((sM_neg hL (by omega)).mpr h3), List.take_of_length_le h3, List.take_of_length_le (by omega)]
    · have hjl : j < (L s).length := by omega
      have h5 := hL.box s _ (List.getElem_mem hjl)
      have r := rem3 ⟨s, hs⟩ ⟨j, by omega⟩
      dsimp only at r
      rw [if_neg (fun z => h3 ((sM_neg hL (by omega)).mp z)), List.take_succ, List.getElem?_eq_getElem hjl, Option.toList_some, pVs_snoc, sM_in (by omega) (List.getElem?_eq_getElem hjl), nI_clamp (by omega), r, Int32.add_assoc, List.length_take, Nat.min_eq_left (by omega), Nat.zero_add]
theorem fM_v_val {L : pL} {T : Nat} (hL : pOk L T) (hT : T ≤ 3) (W : Nat → Int32) : fM_v (sM L) W 9 = pV W L := by
  have a0 := fM_v_st hL hT W 0 (by omega) 3 (Nat.le_refl _)
  have a1 := fM_v_st hL hT W 1 (by omega) 3 (Nat.le_refl _)
  have a2 := fM_v_st hL hT W 2 (by omega) 3 (Nat.le_refl _)
  have l0 := hL.len 0
  have l1 := hL.len 1
  have l2 := hL.len 2
  rw [List.take_of_length_le (by omega)] at a0 a1 a2
  have a0 : fM_v (sM L) W 3 = 0 + pVs W (L 0) 0 := a0
  have a1 : fM_v (sM L) W 6 = fM_v (sM L) W 3 + pVs W (L 1) 0 := a1
  have a2 : fM_v (sM L) W 9 = fM_v (sM L) W 6 + pVs W (L 2) 0 := a2
  rw [a2, a1, a0, Int32.zero_add]
  rfl
theorem fM_l_val {mi si : Nat → Int32} {L : pL} {T : Nat} (hL : pOk L T) (hT : T ≤ 3) (W : Nat → Int32) (e : mi 1 = si 0) : ∀ n, fM_l mi (sM L) W n = fsl si (fun s => pW W (L s)) n := by
  intro n
  induction n with
  | zero => rfl
  | succ n ih => rw [fM_l, fsl, ih, sM_w hL hT, e]
theorem abs_val {x m : Int32} (hm : 0 ≤ m) : fab32 x ≤ m ↔ (x ≤ m ∧ -x ≤ m) := by
  have hm' : 0 ≤ m.toInt := by rw [Int32.le_iff_toInt_le, Int32.toInt_zero] at hm; exact hm
  have x1 := Int32.toInt_lt x
  have x2 := Int32.le_toInt x
  unfold fab32
  by_cases h : 0 ≤ x
  · rw [if_pos h]
    refine ⟨fun z => ⟨z, ?_⟩, fun z => z.1⟩
    rw [Int32.le_iff_toInt_le, Int32.toInt_zero] at h
    rw [Int32.le_iff_toInt_le, Int32.toInt_neg, Int.bmod_def]
    omega
  · rw [if_neg h, Int32.zero_sub]
    refine ⟨fun z => ⟨?_, z⟩, fun z => z.2⟩
    rw [Int32.le_iff_toInt_le, Int32.toInt_zero] at h
    rw [Int32.le_iff_toInt_le]
    omega
