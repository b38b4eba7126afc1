/-! kinds in a stack: class and model see the same -/
def pKd (ki : Nat → Int32) (l : List Nat) (k : Int32) : Int32 := if ∃ b ∈ l, ki b = k then 1 else 0
theorem pKd_nil (ki : Nat → Int32) (k : Int32) : pKd ki [] k = 0 := by
  unfold pKd
  exact if_neg (fun ⟨_, h, _⟩ => absurd h List.not_mem_nil)
theorem pKd_cons (ki : Nat → Int32) (a : Nat) (l : List Nat) (k : Int32) : pKd ki (a :: l) k = if ki a = k then 1 else pKd ki l k := by
  unfold pKd
  by_cases h : ki a = k
  · rw [if_pos h, if_pos ⟨a, List.mem_cons_self, h⟩]
  · rw [if_neg h]
    by_cases h2 : ∃ b ∈ l, ki b = k
    · obtain ⟨b, hb, e⟩ := h2
      have u1 : ∃ b ∈ l, ki b = k := ⟨b, hb, e⟩
      have u2 : ∃ b ∈ a :: l, ki b = k := ⟨b, List.mem_cons_of_mem _ hb, e⟩
      rw [if_pos u1, if_pos u2]
    · rw [if_neg h2, if_neg]
      rintro ⟨b, hb, e⟩
      rcases List.mem_cons.mp hb with z | z
      · exact h (z ▸ e)
      · exact h2 ⟨b, z, e⟩
theorem pKd_snoc (ki : Nat → Int32) (a : Nat) (l : List Nat) (k : Int32) : pKd ki (l ++ [a]) k = if ¬ pKd ki l k = 0 ∨ ki a = k then 1 else 0 := by
  unfold pKd
  by_cases h2 : ∃ b ∈ l, ki b = k
  · obtain ⟨b, hb, e⟩ := h2
    have u1 : ∃ b ∈ l, ki b = k := ⟨b, hb, e⟩
    have u2 : ∃ b ∈ l ++ [a], ki b = k := ⟨b, List.mem_append_left _ hb, e⟩
    rw [if_pos u2, if_pos u1, if_pos (Or.inl (show ¬ (1 : Int32) = 0 from by decide))]
  · rw [if_neg h2]
    by_cases h : ki a = k
    · rw [if_pos ⟨a, List.mem_append_right _ List.mem_cons_self, h⟩, if_pos (Or.inr h)]
    · rw [if_neg, if_neg]
      · rintro (z | z)
        · exact z rfl
        · exact h z
      · rintro ⟨b, hb, e⟩
        rcases List.mem_append.mp hb with z | z
        · exact h2 ⟨b, z, e⟩
        · rw [List.mem_singleton.mp z] at e
          exact h e
theorem fho_val {L : pL} {T : Nat} (hL : pOk L T) (hT : T ≤ 3) (ki : Nat → Int32) (s : Nat) (k : Int32) : ∀ m j, m + j = (L s).length → fho (sM L) ki s k m j = pKd ki ((L s).drop j) k := by
  have h0 := hL.len s
  intro m
  induction m with
  | zero => intro j hj; rw [fho, List.drop_of_length_le (by omega), pKd_nil]
  | succ m ih =>
    intro j hj
    have hjl : j < (L s).length := by omega
    have h5 := hL.box s _ (List.getElem_mem hjl)
    rw [fho, List.drop_eq_getElem_cons hjl, pKd_cons, ih (j + 1) (by omega), show s * 3 = 3 * s by omega, sM_in (by omega) (List.getElem?_eq_getElem hjl), nI_clamp (by omega)]
theorem fM_k_val {L : pL} {T : Nat} (hL : pOk L T) (hT : T ≤ 3) (ki : Nat → Int32) (s : Nat) (k : Int32) : ∀ n, n ≤ 3 → fM_k (sM L) ki s k n = pKd ki ((L s).take n) k := by
  have h0 := hL.len s
  intro n
  induction n with
  | zero => intro _; rw [fM_k, List.take_zero, pKd_nil]
  | succ n ih =>
    intro hn
    rw [fM_k, ih (by omega)]
    by_cases h3 : (L s).length ≤ n
    · have e := (sM_neg (s := s) (j := n) hL (by omega)).mpr h3
      rw [List.take_of_length_le h3, List.take_of_length_le (by omega)]
      by_cases z : pKd ki (L s) k = 0
      · rw [z, if_neg]
        rintro (y | y)
        · exact y rfl
        · exact y.1 e
      · rw [if_pos (Or.inl z)]
        unfold pKd at z ⊢
        by_cases w : ∃ b ∈ L s, ki b = k
        · rw [if_pos w]
        · rw [if_neg w] at z; exact absurd rfl z
    · have hjl : n < (L s).length := by omega
      have h5 := hL.box s _ (List.getElem_mem hjl)
      have e : ¬ sM L (3 * s + n) < 0 := fun z => h3 ((sM_neg hL (by omega)).mp z)
      rw [List.take_succ, List.getElem?_eq_getElem hjl, Option.toList_some, pKd_snoc]
      have e2 : ki (sM L (3 * s + n)).toNatClampNeg = ki (L s)[n] := by
        rw [sM_in (by omega) (List.getElem?_eq_getElem hjl), nI_clamp (by omega)]
      rw [e2]
      by_cases z : ¬ pKd ki ((L s).take n) k = 0 ∨ ki (L s)[n] = k
      · rw [if_pos z, if_pos]
        exact z.imp id (fun y => ⟨e, y⟩)
      · rw [if_neg z, if_neg]
        exact fun y => z (y.imp id (fun w => w.2))
def pIn (L : pL) (S : Nat) : Prop := ∀ s, S ≤ s → L s = []
theorem fhl_val {si : Nat → Int32} {L : pL} {S T : Nat} (hL : pOk L T) (hT : T ≤ 3) (hI : pIn L S) (hS : si 0 = nI S) (hS3 : S ≤ 3) (ki : Nat → Int32) (s : Nat) (hs : s < 10) (k : Int32) : fhl si (sM L) (fun s => nI (L s).length) ki (nI s) k = pKd ki (L s) k := by
  have h0 := hL.len s
  unfold fhl
  rw [if_neg (nI_pos (by omega)), hS, nI_clamp (by omega)]
  by_cases h : s < S
  · rw [if_pos (nI_lt h (by omega)), nI_clamp (by omega), fho_val hL hT ki s k _ 0 rfl, List.drop_zero]
  · rw [if_neg (nI_nlt (by omega) (by omega)), hI s (by omega), pKd_nil]
theorem fM_kx_val {L : pL} {S T : Nat} (hL : pOk L T) (hT : T ≤ 3) (hI : pIn L S) (hS3 : S ≤ 3) (ki : Nat → Int32) (s : Nat) (hs : s < 10) (k : Int32) : fM_kx (sM L) ki (nI s) k = pKd ki (L s) k := by
  have h0 := hL.len s
  unfold fM_kx
  by_cases h : s < 3
  · have z : ¬ fw (nI s) 0 2 = 0 := fw_in (nI_z s (by omega)) (show nI s ≤ nI 2 from nI_le (by omega) (by omega))
    rw [if_neg z, nI_clamp (by omega), fM_k_val hL hT ki s k 3 (Nat.le_refl _), List.take_of_length_le (by omega)]
  · have z : fw (nI s) 0 2 = 0 := if_neg (fun y => absurd y.2 (show ¬ nI s ≤ nI 2 from nI_ge (by omega) (by omega)))
    rw [if_pos z, hI s (by omega), pKd_nil]
