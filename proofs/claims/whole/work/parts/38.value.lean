/-! a hold as a value: for each stack the boxes in it, the lowest first -/
abbrev pL := Nat → List Nat
def sM (L : pL) : Nat → Int32 := fun k => match (L (k / 3))[k % 3]? with | some b => nI b | none => -1
def pOk (L : pL) (T : Nat) : Prop := (∀ s, (L s).length ≤ T) ∧ (∀ s b, b ∈ L s → b < 5) ∧ ∀ s, 3 ≤ s → L s = []
theorem pOk.len {L : pL} {T : Nat} (h : pOk L T) : ∀ s, (L s).length ≤ T := h.1
theorem pOk.box {L : pL} {T : Nat} (h : pOk L T) : ∀ s b, b ∈ L s → b < 5 := h.2.1
theorem pOk.lo {L : pL} {T : Nat} (h : pOk L T) : ∀ s, 3 ≤ s → L s = [] := h.2.2
theorem sM_ix (L : pL) (s j : Nat) (hj : j < 3) : sM L (3 * s + j) = match (L s)[j]? with | some b => nI b | none => -1 := by
  unfold sM
  rw [show (3 * s + j) / 3 = s by omega, show (3 * s + j) % 3 = j by omega]
theorem sM_in {L : pL} {s j b : Nat} (hj : j < 3) (h : (L s)[j]? = some b) : sM L (3 * s + j) = nI b := by
  rw [sM_ix L s j hj, h]
theorem sM_no {L : pL} {s j : Nat} (hj : j < 3) (h : (L s).length ≤ j) : sM L (3 * s + j) = -1 := by
  rw [sM_ix L s j hj, List.getElem?_eq_none h]
theorem sM_neg {L : pL} {T s j : Nat} (hL : pOk L T) (hj : j < 3) : sM L (3 * s + j) < 0 ↔ (L s).length ≤ j := by
  constructor
  · intro h
    by_cases h1 : j < (L s).length
    · rw [sM_in hj (List.getElem?_eq_getElem h1)] at h
      have := hL.box s _ (List.getElem_mem h1)
      exact absurd h (nI_pos (by omega))
    · omega
  · intro h
    rw [sM_no hj h]
    decide
theorem sM_hn {L : pL} {T s : Nat} (hL : pOk L T) (hT : T ≤ 3) : fM_hn (sM L) s 3 0 = (L s).length := by
  have h0 := hL.len s
  have : ∀ m j, m + j = 3 → j ≤ (L s).length → fM_hn (sM L) s m j = (L s).length := by
    intro m
    induction m with
    | zero => intro j h1 h2; rw [fM_hn]; omega
    | succ m ih =>
      intro j h1 h2
      rw [fM_hn]
      by_cases h3 : (L s).length ≤ j
      · rw [if_pos ((sM_neg hL (by omega)).mpr h3)]; omega
      · rw [if_neg (fun z => h3 ((sM_neg hL (by omega)).mp z))]
        exact ih (j + 1) (by omega) (by omega)
  exact this 3 0 rfl (Nat.zero_le _)
def pW (W : Nat → Int32) (l : List Nat) : Int32 := l.foldl (fun a b => a + W b) 0
theorem pW_snoc (W : Nat → Int32) (l : List Nat) (b : Nat) : pW W (l ++ [b]) = pW W l + W b := by
  unfold pW
  rw [List.foldl_append]
  rfl
theorem sM_w {L : pL} {T s : Nat} (hL : pOk L T) (hT : T ≤ 3) (W : Nat → Int32) : fM_w (sM L) W s 3 = pW W (L s) := by
  have h0 := hL.len s
  have : ∀ j, j ≤ 3 → fM_w (sM L) W s j = pW W ((L s).take j) := by
    intro j
    induction j with
    | zero => intro _; rw [fM_w, List.take_zero]; rfl
    | succ j ih =>
      intro h
      rw [fM_w, ih (by omega)]
      by_cases h3 : (L s).length ≤ j
      · rw [if_pos ((sM_neg hL (by omega)).mpr h3), List.take_of_length_le h3, List.take_of_length_le (by omega)]
      · rw [if_neg (fun z => h3 ((sM_neg hL (by omega)).mp z)), List.take_succ, List.getElem?_eq_getElem (by omega)]
        have hb := hL.box s _ (List.getElem_mem (show j < (L s).length by omega))
        rw [Option.toList_some, pW_snoc, sM_in (by omega) (List.getElem?_eq_getElem (by omega)), nI_clamp (by omega)]
  rw [this 3 (Nat.le_refl _), List.take_of_length_le (by omega)]
theorem sM_f5 {L : pL} {T : Nat} (hL : pOk L T) : ∀ k, k < 9 → ¬ sM L k < 0 → vp_in (sM L k) 5 := by
  intro k _ h
  have e : k = 3 * (k / 3) + k % 3 := by omega
  rw [e] at h ⊢
  have h1 : ¬ (L (k / 3)).length ≤ k % 3 := fun z => h ((sM_neg hL (by omega)).mpr z)
  rw [sM_in (by omega) (List.getElem?_eq_getElem (by omega))]
  exact vp_in_nI (hL.box _ _ (List.getElem_mem (by omega))) (by omega)
/-- a box is somewhere -/
abbrev pHas (L : pL) (b : Nat) : Prop := b ∈ L 0 ∨ b ∈ L 1 ∨ b ∈ L 2
theorem sM_eq {L : pL} {T : Nat} (hL : pOk L T) (hT : T ≤ 3) {b : Nat} (hb : b < 5) : pHas L b ↔ ∃ k, k < 9 ∧ sM L k = nI b := by
  have hm : ∀ s, s < 3 → b ∈ L s → ∃ k, k < 9 ∧ sM L k = nI b := by
    intro s hs h
    obtain ⟨j, hj, e⟩ := List.getElem_of_mem h
    have h0 := hL.len s
    refine ⟨3 * s + j, by omega, ?_⟩
    rw [sM_in (by omega) (List.getElem?_eq_getElem hj), e]
  constructor
  · rintro (h | h | h)
    · exact hm 0 (by omega) h
    · exact hm 1 (by omega) h
    · exact hm 2 (by omega) h
  · rintro ⟨k, hk, h⟩
    have e : k = 3 * (k / 3) + k % 3 := by omega
    rw [e] at h
    have h1 : ¬ (L (k / 3)).length ≤ k % 3 := fun z => by
      rw [sM_no (by omega) z] at h
      exact nI_ne_m1 (by omega) h.symm
    rw [sM_in (by omega) (List.getElem?_eq_getElem (by omega))] at h
    have hm := List.getElem_mem (l := L (k / 3)) (n := k % 3) (by omega)
    have h5 := hL.box _ _ hm
    rw [nI_inj (by omega) (by omega) h] at hm
    have : k / 3 = 0 ∨ k / 3 = 1 ∨ k / 3 = 2 := by omega
    rcases this with z | z | z
    · rw [z] at hm; exact Or.inl hm
    · rw [z] at hm; exact Or.inr (Or.inl hm)
    · rw [z] at hm; exact Or.inr (Or.inr hm)
theorem fM_in_iff (f : Nat → Int32) (b : Int32) : ∀ n, ¬ fM_in f b n = 0 ↔ ∃ k, k < n ∧ f k = b := by
  intro n
  induction n with
  | zero => rw [fM_in]; exact ⟨fun h => absurd rfl h, fun ⟨k, hk, _⟩ => by omega⟩
  | succ n ih =>
    rw [fM_in]
    by_cases h : ¬ fM_in f b n = 0 ∨ f n = b
    · rw [if_pos h]
      refine ⟨fun _ => ?_, fun _ => by decide⟩
      rcases h with h | h
      · obtain ⟨k, hk, e⟩ := ih.mp h
        exact ⟨k, by omega, e⟩
      · exact ⟨n, by omega, h⟩
    · rw [if_neg h]
      refine ⟨fun z => absurd rfl z, fun ⟨k, hk, e⟩ => ?_⟩
      have h1 : ¬ ¬ fM_in f b n = 0 := fun z => h (Or.inl z)
      have h2 : ¬ f n = b := fun z => h (Or.inr z)
      by_cases h3 : k = n
      · exact absurd (h3 ▸ e) h2
      · exact absurd (ih.mpr ⟨k, by omega, e⟩) h1
theorem sM_has {L : pL} {T : Nat} (hL : pOk L T) (hT : T ≤ 3) {b : Nat} (hb : b < 5) : ¬ fM_in (sM L) (nI b) 9 = 0 ↔ pHas L b :=
  (fM_in_iff _ _ 9).trans (sM_eq hL hT hb).symm
theorem sM_push {L : pL} {s : Nat} (b : Nat) (h : (L s).length < 3) : upd (sM L) (3 * s + (L s).length) (nI b) = sM (up1 L s (L s ++ [b])) := by
  funext k
  unfold upd sM up1
  by_cases h1 : k / 3 = s
  · rw [if_pos h1, h1]
    by_cases h2 : k = 3 * s + (L s).length
    · rw [if_pos h2, show k % 3 = (L s).length by omega]
      simp
    · rw [if_neg h2]
      by_cases h3 : k % 3 < (L s).length
      · rw [List.getElem?_append_left h3]
      · rw [List.getElem?_eq_none (by omega), List.getElem?_eq_none (by rw [List.length_append, List.length_singleton]; omega)]
  · rw [if_neg h1, if_neg (by omega)]
theorem sM_pop {L : pL} {s n : Nat} (h : (L s).length = n + 1) (hn : n < 3) : upd (sM L) (3 * s + n) (-1) = sM (up1 L s (L s).dropLast) := by
  funext k
  unfold upd sM up1
  by_cases h1 : k / 3 = s
  · rw [if_pos h1, h1, List.getElem?_dropLast]
    by_cases h2 : k = 3 * s + n
    · rw [if_pos h2, if_neg (by omega)]
    · rw [if_neg h2]
      by_cases h3 : k % 3 < (L s).length - 1
      · rw [if_pos h3]
      · rw [if_neg h3, List.getElem?_eq_none (by omega)]
  · rw [if_neg h1, if_neg (by omega)]
theorem pOk_push {L : pL} {T s b : Nat} (h : pOk L T) (hs : s < 3) (hb : b < 5) (hn : (L s).length < T) : pOk (up1 L s (L s ++ [b])) T := by
  refine ⟨fun r => ?_, fun r c hc => ?_, fun r hr => ?_⟩
  · unfold up1
    split
    · rw [List.length_append, List.length_singleton]; omega
    · exact h.len r
  · unfold up1 at hc
    split at hc
    · rcases List.mem_append.mp hc with z | z
      · exact h.box _ _ z
      · rw [List.mem_singleton.mp z]; exact hb
    · exact h.box _ _ hc
  · unfold up1
    rw [if_neg (by omega)]
    exact h.lo r hr
theorem pOk_pop {L : pL} {T s : Nat} (h : pOk L T) (hs : s < 3) : pOk (up1 L s (L s).dropLast) T := by
  refine ⟨fun r => ?_, fun r c hc => ?_, fun r hr => ?_⟩
  · unfold up1
    split
    · have := h.len s
      rw [List.length_dropLast]; omega
    · exact h.len r
  · unfold up1 at hc
    split at hc
    · exact h.box _ _ ((List.dropLast_sublist _).subset hc)
    · exact h.box _ _ hc
  · unfold up1
    rw [if_neg (by omega)]
    exact h.lo r hr
/-- the act of one move: the box, the stack that it leaves or none, the stack that it comes to -/
def aAct (S T : Nat) (cap : Int32) (W : Nat → Int32) (b : Nat) (fr : Option Nat) (to : Nat) (L : pL) : Option pL :=
  match fr with
  | some s => if (L s).getLast? = some b then some (up1 L s (L s).dropLast) else none
  | none => if to < S ∧ ¬ (L to).length = T ∧ ¬ cap < pW W (L to) + W b ∧ ¬ pHas L b then some (up1 L to (L to ++ [b])) else none
theorem aAct_ok {S T : Nat} {cap : Int32} {W : Nat → Int32} {b : Nat} {fr : Option Nat} {to : Nat} {L L' : pL} (h : pOk L T) (hS : S ≤ 3) (hb : b < 5) (hf : ∀ s, fr = some s → s < 3) (e : aAct S T cap W b fr to L = some L') : pOk L' T := by
  unfold aAct at e
  split at e
  · next s =>
    split at e
    · cases e; exact pOk_pop h (hf s rfl)
    · cases e
  · split at e
    · next z =>
      cases e
      have := h.len to
      exact pOk_push h (by omega) hb (by omega)
    · cases e
