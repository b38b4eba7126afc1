/-! the class's hold as the value: its arrays, its sums, its bits -/
set_option maxRecDepth 100000 in
theorem mk_or : ∀ m : Fin 32, ∀ c : Fin 5, nI m.val ||| ((1 : Int32) <<< (nI c.val &&& 31)) = nI (m.val ||| 2 ^ c.val) ∧ m.val ||| 2 ^ c.val < 32 := by decide
set_option maxRecDepth 100000 in
theorem mk_bit : ∀ m : Fin 32, ∀ c : Fin 5, ((nI m.val >>> (nI c.val &&& 31)) &&& 1 = 1) = (m.val.testBit c.val = true) := by decide
def fabN (f : Nat → Int32) : Nat → Nat
  | 0 => 0
  | j + 1 => if f j = -1 then fabN f j else fabN f j ||| 2 ^ (f j).toNatClampNeg
theorem fabN_ok (f : Nat → Int32) : ∀ n, (∀ k, k < n → f k = -1 ∨ ∃ c, c < 5 ∧ f k = nI c) → fab f n = nI (fabN f n) ∧ fabN f n < 32 ∧ ∀ b, b < 5 → ((fabN f n).testBit b = true ↔ ∃ k, k < n ∧ f k = nI b) := by
  intro n
  induction n with
  | zero => intro _; exact ⟨rfl, (show (0 : Nat) < 32 from by decide), fun b _ => ⟨fun h => by simp [fabN] at h, fun ⟨k, hk, _⟩ => by omega⟩⟩
  | succ n ih =>
    intro h
    obtain ⟨i1, i2, i3⟩ := ih (fun k hk => h k (by omega))
    rcases h n (by omega) with e | ⟨c, hc, e⟩
    · rw [fab, fabN, if_pos e, if_pos e]
      refine ⟨i1, i2, fun b hb => (i3 b hb).trans ⟨fun ⟨k, hk, z⟩ => ⟨k, by omega, z⟩, fun ⟨k, hk, z⟩ => ?_⟩⟩
      by_cases hk9 : k = n
      · rw [hk9, e] at z; exact absurd z.symm (nI_ne_m1 (by omega))
      · exact ⟨k, by omega, z⟩
    · have e0 : ¬ f n = -1 := by rw [e]; exact nI_ne_m1 (by omega)
      rw [fab, fabN, if_neg e0, if_neg e0, e, nI_clamp (by omega), i1]
      obtain ⟨u1, u2⟩ := mk_or ⟨fabN f n, i2⟩ ⟨c, hc⟩
      refine ⟨u1, u2, fun b hb => ?_⟩
      rw [Nat.testBit_or, Bool.or_eq_true, Nat.testBit_two_pow, decide_eq_true_eq]
      constructor
      · rintro (z | z)
        · obtain ⟨k, hk, w⟩ := (i3 b hb).mp z
          exact ⟨k, by omega, w⟩
        · exact ⟨n, by omega, by rw [e, z]⟩
      · rintro ⟨k, hk, z⟩
        by_cases hk9 : k = n
        · rw [hk9, e] at z; exact Or.inr (nI_inj (by omega) (by omega) z)
        · exact Or.inl ((i3 b hb).mpr ⟨k, by omega, z⟩)
theorem sM_two {L : pL} {T : Nat} (hL : pOk L T) : ∀ k, k < 9 → sM L k = -1 ∨ ∃ c, c < 5 ∧ sM L k = nI c := by
  intro k _
  unfold sM
  cases h : (L (k / 3))[k % 3]? with
  | none => exact Or.inl rfl
  | some c => exact Or.inr ⟨c, hL.box _ _ (List.mem_of_getElem? h), rfl⟩
theorem sM_isab {L : pL} {T : Nat} (hL : pOk L T) (hT : T ≤ 3) {b : Nat} (hb : b < 5) : fisab (sM L) (nI b) = 0 ↔ ¬ pHas L b := by
  obtain ⟨i1, i2, i3⟩ := fabN_ok (sM L) 9 (sM_two hL)
  have e := mk_bit ⟨fabN (sM L) 9, i2⟩ ⟨b, hb⟩
  have e2 : ((fab (sM L) 9 >>> (nI b &&& 31)) &&& 1 = 1) ↔ pHas L b := by
    rw [i1]
    exact (iff_of_eq e).trans ((i3 b hb).trans (sM_eq hL hT hb).symm)
  unfold fisab
  by_cases h : pHas L b
  · rw [if_pos (e2.mpr h)]
    exact ⟨fun z => absurd z (by decide), fun z => absurd h z⟩
  · rw [if_neg (fun z => h (e2.mp z))]
    exact ⟨fun _ => h, fun _ => rfl⟩
def cA (W : Nat → Int32) (L : pL) : Nat → Nat → Int32 := fun k => if k = 0 then sM L else if k = 1 then fun s => nI (L s).length else fun s => pW W (L s)
def pVs (W : Nat → Int32) : List Nat → Nat → Int32
  | [], _ => 0
  | b :: l, j => W b * nI (j + 1) + pVs W l (j + 1)
theorem pVs_snoc (W : Nat → Int32) (b : Nat) : ∀ (l : List Nat) (j : Nat), pVs W (l ++ [b]) j = pVs W l j + W b * nI (j + l.length + 1) := by
  intro l
  induction l with
  | nil => intro j; simp [pVs]
  | cons a l ih =>
    intro j
    rw [List.cons_append, pVs, pVs, ih, Int32.add_assoc, List.length_cons, show j + 1 + l.length + 1 = j + (l.length + 1) + 1 by omega]
def pV (W : Nat → Int32) (L : pL) : Int32 := pVs W (L 0) 0 + pVs W (L 1) 0 + pVs W (L 2) 0
theorem pV_push (W : Nat → Int32) (L : pL) {s : Nat} (hs : s < 3) (b : Nat) : pV W (up1 L s (L s ++ [b])) = pV W L + W b * nI ((L s).length + 1) := by
  have u : s = 0 ∨ s = 1 ∨ s = 2 := by omega
  rcases u with rfl | rfl | rfl
  · simp only [pV, up1, pVs_snoc, if_pos, Nat.zero_add, if_neg (show ¬ (1 : Nat) = 0 by decide), if_neg (show ¬ (2 : Nat) = 0 by decide)]
    rw [Int32.add_assoc, Int32.add_assoc, Int32.add_comm (W b * _), ← Int32.add_assoc, ← Int32.add_assoc]
  · simp only [pV, up1, pVs_snoc, if_pos, Nat.zero_add, if_neg (show ¬ (0 : Nat) = 1 by decide), if_neg (show ¬ (2 : Nat) = 1 by decide)]
    rw [← Int32.add_assoc, Int32.add_assoc, Int32.add_comm (W b * _), ← Int32.add_assoc]
  · simp only [pV, up1, pVs_snoc, if_pos, Nat.zero_add, if_neg (show ¬ (0 : Nat) = 2 by decide), if_neg (show ¬ (1 : Nat) = 2 by decide)]
    rw [← Int32.add_assoc]
theorem stA_cA (W : Nat → Int32) (L : pL) {s : Nat} (b : Nat) (h : (L s).length < 3) : stA (cA W L) W s (L s).length b = cA W (up1 L s (L s ++ [b])) := by
  funext k
  unfold stA
  by_cases h0 : k = 0
  · rw [if_pos h0, h0, show s * 3 = 3 * s by omega]
    exact sM_push b h
  · rw [if_neg h0]
    by_cases h1 : k = 1
    · rw [if_pos h1, h1]
      funext r
      show upd (fun s => nI (L s).length) s (nI ((L s).length + 1)) r = nI (up1 L s (L s ++ [b]) r).length
      unfold upd up1
      by_cases hr : r = s
      · rw [if_pos hr, if_pos hr, List.length_append, List.length_singleton]
      · rw [if_neg hr, if_neg hr]
    · rw [if_neg h1]
      funext r
      have e : cA W (up1 L s (L s ++ [b])) k = fun s9 => pW W (up1 L s (L s ++ [b]) s9) := by unfold cA; rw [if_neg h0, if_neg h1]
      rw [e]
      show upd (fun s => pW W (L s)) s (pW W (L s) + W b) r = pW W (up1 L s (L s ++ [b]) r)
      unfold upd up1
      by_cases hr : r = s
      · rw [if_pos hr, if_pos hr, pW_snoc]
      · rw [if_neg hr, if_neg hr]
theorem getLast_split {l : List Nat} {b : Nat} (h : l.getLast? = some b) : l = l.dropLast ++ [b] := by
  cases l with
  | nil => cases h
  | cons a l =>
    have h1 : (a :: l).getLast (List.cons_ne_nil _ _) = b := by
      rw [List.getLast?_eq_some_getLast (List.cons_ne_nil _ _)] at h
      exact Option.some.inj h
    rw [← h1]
    exact (List.dropLast_concat_getLast _).symm
theorem up1_back (L : pL) (s : Nat) {b : Nat} (h : (L s).getLast? = some b) : up1 (up1 L s (L s).dropLast) s (up1 L s (L s).dropLast s ++ [b]) = L := by
  funext r
  unfold up1
  by_cases hr : r = s
  · rw [if_pos hr, if_pos rfl, hr]
    exact (getLast_split h).symm
  · rw [if_neg hr, if_neg hr]
theorem pV_pop (W : Nat → Int32) (L : pL) {s n : Nat} (hs : s < 3) {b : Nat} (h : (L s).getLast? = some b) (hn : (L s).length = n + 1) : pV W L - W b * nI (n + 1) = pV W (up1 L s (L s).dropLast) := by
  have e := pV_push W (up1 L s (L s).dropLast) hs b
  rw [up1_back L s h] at e
  have e2 : (up1 L s (L s).dropLast s).length = n := by
    unfold up1
    rw [if_pos rfl, List.length_dropLast, hn]
    rfl
  rw [e2] at e
  rw [e]
  exact Int32.add_sub_cancel _ _
theorem unA_cA (W : Nat → Int32) (L : pL) {s n : Nat} {b : Nat} (h : (L s).getLast? = some b) (hn : (L s).length = n + 1) (h3 : n < 3) : unA (cA W L) W s n b = cA W (up1 L s (L s).dropLast) := by
  funext k
  unfold unA
  by_cases h0 : k = 0
  · rw [if_pos h0, h0, show s * 3 = 3 * s by omega]
    exact sM_pop hn h3
  · rw [if_neg h0]
    by_cases h1 : k = 1
    · rw [if_pos h1, h1]
      funext r
      show upd (fun s => nI (L s).length) s (nI n) r = nI (up1 L s (L s).dropLast r).length
      unfold upd up1
      by_cases hr : r = s
      · rw [if_pos hr, if_pos hr, List.length_dropLast, hn]
        rfl
      · rw [if_neg hr, if_neg hr]
    · rw [if_neg h1]
      funext r
      have e : cA W (up1 L s (L s).dropLast) k = fun s9 => pW W (up1 L s (L s).dropLast s9) := by unfold cA; rw [if_neg h0, if_neg h1]
      rw [e]
      show upd (fun s => pW W (L s)) s (pW W (L s) - W b) r = pW W (up1 L s (L s).dropLast r)
      unfold upd up1
      by_cases hr : r = s
      · rw [if_pos hr, if_pos hr]
        have e3 : pW W (L s) = pW W (L s).dropLast + W b := by
          rw [← pW_snoc, ← getLast_split h]
        rw [e3]
        exact Int32.add_sub_cancel _ _
      · rw [if_neg hr, if_neg hr]
theorem empA_cA (W : Nat → Int32) : empA = cA W pE := by
  funext k
  unfold empA cA
  by_cases h0 : k = 0
  · rw [if_pos h0, if_pos h0]; rfl
  · rw [if_neg h0, if_neg h0]
    by_cases h1 : k = 1
    · rw [if_pos h1]; rfl
    · rw [if_neg h1]; rfl
theorem pV_E (W : Nat → Int32) : pV W pE = 0 := rfl
