/-! plan as a value: the arrangements of a departure in their order -/
def eMay (S T : Nat) (du : Nat → Bool) (k b : Nat) (L : pL) : Bool := decide (k / 3 < S ∧ k % 3 < T ∧ (L (k / 3)).length = k % 3 ∧ ¬ pHas L b) && du b
def pPut (L : pL) (s b : Nat) : pL := up1 L s (L s ++ [b])
def eGo (S T : Nat) (du : Nat → Bool) (ok : pL → Bool) : Nat → pL → List pL
  | 0, L => if ok L = true then [L] else []
  | n + 1, L => eGo S T du ok n L ++ (List.range 5).flatMap (fun b => if eMay S T du (8 - n) b L = true then eGo S T du ok n (pPut L ((8 - n) / 3) b) else [])
theorem eMay_iff {S T : Nat} {du : Nat → Bool} {k b : Nat} {L : pL} : eMay S T du k b L = true ↔ (k / 3 < S ∧ k % 3 < T ∧ (L (k / 3)).length = k % 3 ∧ ¬ pHas L b) ∧ du b = true := by
  unfold eMay
  rw [Bool.and_eq_true, decide_eq_true_eq]
/-- a slot that takes no box is passed by -/
theorem eGo_skip {S T : Nat} {du : Nat → Bool} {ok : pL → Bool} {n : Nat} {L : pL} (h : ∀ b, b < 5 → ¬ eMay S T du (8 - n) b L = true) : eGo S T du ok (n + 1) L = eGo S T du ok n L := by
  rw [eGo]
  have : (List.range 5).flatMap (fun b => if eMay S T du (8 - n) b L = true then eGo S T du ok n (pPut L ((8 - n) / 3) b) else []) = [] := by
    rw [List.flatMap_eq_nil_iff]
    intro b hb
    rw [if_neg (h b (List.mem_range.mp hb))]
  rw [this, List.append_nil]
/-- no slot from here on to the next stack takes a box -/
theorem eGo_shut {S T : Nat} {du : Nat → Bool} {ok : pL → Bool} {L : pL} {s : Nat} (hs : s < 3) : ∀ m t, m + t = 3 → (∀ j, t ≤ j → j < 3 → ∀ b, b < 5 → ¬ eMay S T du (3 * s + j) b L = true) → eGo S T du ok (9 - (3 * s + t)) L = eGo S T du ok (9 - 3 * (s + 1)) L := by
  intro m
  induction m with
  | zero => intro t ht _; rw [show 9 - (3 * s + t) = 9 - 3 * (s + 1) by omega]
  | succ m ih =>
    intro t ht h
    rw [show 9 - (3 * s + t) = (8 - (3 * s + t)) + 1 by omega, eGo_skip (by rw [show 8 - (8 - (3 * s + t)) = 3 * s + t by omega]; exact h t (Nat.le_refl _) (by omega))]
    rw [← ih (t + 1) (by omega) (fun j h1 h2 => h j (by omega) h2)]
    rw [show 8 - (3 * s + t) = 9 - (3 * s + (t + 1)) by omega]
/-- beyond the stacks no slot takes a box -/
theorem eGo_end {S T : Nat} {du : Nat → Bool} {ok : pL → Bool} {L : pL} : ∀ m s, m + s = 3 → S ≤ s → eGo S T du ok (9 - 3 * s) L = if ok L = true then [L] else [] := by
  intro m
  induction m with
  | zero => intro s hs _; rw [show 9 - 3 * s = 0 by omega, eGo]
  | succ m ih =>
    intro s hs hS
    rw [← ih (s + 1) (by omega) (by omega)]
    refine eGo_shut (by omega) 3 0 rfl (fun j _ hj b _ h => ?_)
    have := (eMay_iff.mp h).1.1
    omega
/-- a stack with no room or with its next box: the two ways on -/
theorem eGo_full {S T : Nat} {du : Nat → Bool} {ok : pL → Bool} {L : pL} {s : Nat} (hs : s < 3) (hT : (L s).length = T) (hT3 : T ≤ 3) : eGo S T du ok (9 - (3 * s + (L s).length)) L = eGo S T du ok (9 - 3 * (s + 1)) L := by
  refine eGo_shut hs (3 - (L s).length) (L s).length (by omega) (fun j h1 h2 b _ h => ?_)
  have := (eMay_iff.mp h).1.2.1
  omega
theorem eGo_open {S T : Nat} {du : Nat → Bool} {ok : pL → Bool} {L : pL} {s : Nat} (hs : s < 3) (hS : s < S) (hT : (L s).length < T) (hT3 : T ≤ 3) : eGo S T du ok (9 - (3 * s + (L s).length)) L = eGo S T du ok (9 - 3 * (s + 1)) L ++ (List.range 5).flatMap (fun b => if du b = true ∧ ¬ pHas L b then eGo S T du ok (9 - (3 * s + ((L s).length + 1))) (pPut L s b) else []) := by
  rw [show 9 - (3 * s + (L s).length) = (8 - (3 * s + (L s).length)) + 1 by omega, eGo]
  rw [show 8 - (8 - (3 * s + (L s).length)) = 3 * s + (L s).length by omega, show (3 * s + (L s).length) / 3 = s by omega]
  have e : eGo S T du ok (8 - (3 * s + (L s).length)) L = eGo S T du ok (9 - 3 * (s + 1)) L := by
    rw [show 8 - (3 * s + (L s).length) = 9 - (3 * s + ((L s).length + 1)) by omega]
    refine eGo_shut hs (2 - (L s).length) ((L s).length + 1) (by omega) (fun j h1 h2 b _ h => ?_)
    have := (eMay_iff.mp h).1.2.2.1
    rw [show (3 * s + j) / 3 = s by omega] at this
    omega
  rw [e]
  congr 2
  funext b
  have : eMay S T du (3 * s + (L s).length) b L = true ↔ du b = true ∧ ¬ pHas L b := by
    rw [eMay_iff, show (3 * s + (L s).length) / 3 = s by omega, show (3 * s + (L s).length) % 3 = (L s).length by omega]
    exact ⟨fun h => ⟨h.2, h.1.2.2.2⟩, fun h => ⟨⟨hS, hT, rfl, h.2⟩, h.1⟩⟩
  simp only [this]
  rw [show 8 - (3 * s + (L s).length) = 9 - (3 * s + ((L s).length + 1)) by omega]
/-! the arrangements listed: what they are, how many there are -/
def ct (L : pL) (b : Nat) : Nat := (L 0).count b + (L 1).count b + (L 2).count b
theorem ct_has {L : pL} {b : Nat} : pHas L b ↔ 0 < ct L b := by
  unfold ct pHas
  rw [← List.count_pos_iff, ← List.count_pos_iff, ← List.count_pos_iff]
  omega
theorem ct_put {L : pL} {s b : Nat} (hs : s < 3) (c : Nat) : ct (pPut L s b) c = ct L c + if c = b then 1 else 0 := by
  have u : s = 0 ∨ s = 1 ∨ s = 2 := by omega
  have e : (if b = c then 1 else 0) = if c = b then 1 else 0 := by
    by_cases h : b = c
    · rw [if_pos h, if_pos h.symm]
    · rw [if_neg h, if_neg (fun z => h z.symm)]
  unfold ct pPut up1
  rcases u with rfl | rfl | rfl <;> simp [List.count_append, List.count_singleton, e] <;> omega
/-- an arrangement on the way: due boxes only, each once, nothing beyond slot k -/
def eOk (S T : Nat) (du : Nat → Bool) (k : Nat) (L : pL) : Prop :=
  pOk L T ∧ pIn L S ∧ (∀ b, ct L b ≤ 1) ∧ (∀ b, pHas L b → du b = true) ∧ (∀ s, k / 3 < s → L s = []) ∧ (L (k / 3)).length ≤ k % 3
theorem eOk_zero {S T : Nat} {du : Nat → Bool} : eOk S T du 0 pE := by
  refine ⟨⟨fun _ => Nat.zero_le _, fun _ b h => ?_, fun _ _ => rfl⟩, fun _ _ => rfl, fun b => ?_, fun b h => ?_, fun _ _ => rfl, Nat.le_refl _⟩
  · exact absurd h (List.not_mem_nil)
  · show (0 : Nat) + 0 + 0 ≤ 1
    omega
  · rcases h with h | h | h <;> exact absurd h (List.not_mem_nil)
theorem eOk_pass {S T : Nat} {du : Nat → Bool} {k : Nat} {L : pL} (h : eOk S T du k L) : eOk S T du (k + 1) L := by
  obtain ⟨h1, h2, h3, h4, h5, h6⟩ := h
  refine ⟨h1, h2, h3, h4, fun s hs => h5 s (by omega), ?_⟩
  by_cases z : (k + 1) % 3 = 0
  · rw [h5 _ (show k / 3 < (k + 1) / 3 by omega)]
    exact Nat.zero_le _
  · rw [show (k + 1) / 3 = k / 3 by omega]
    omega
theorem eOk_put {S T : Nat} {du : Nat → Bool} {k b : Nat} {L : pL} (hk : k < 9) (hb : b < 5) (h : eOk S T du k L) (hm : eMay S T du k b L = true) : eOk S T du (k + 1) (pPut L (k / 3) b) := by
  obtain ⟨h1, h2, h3, h4, h5, h6⟩ := h
  obtain ⟨⟨m1, m2, m3, m4⟩, m5⟩ := eMay_iff.mp hm
  refine ⟨pOk_push h1 (by omega) hb (by omega), fun s hs => ?_, fun c => ?_, fun c hc => ?_, fun s hs => ?_, ?_⟩
  · unfold pPut up1
    rw [if_neg (by omega)]
    exact h2 s hs
  · rw [ct_put (by omega)]
    have z : ¬ 0 < ct L b := fun y => m4 (ct_has.mpr y)
    have := h3 c
    by_cases e : c = b
    · rw [if_pos e]
      rw [e]
      omega
    · rw [if_neg e]
      omega
  · have := ct_has.mp hc
    rw [ct_put (by omega)] at this
    by_cases e : c = b
    · rw [e]; exact m5
    · rw [if_neg e] at this
      exact h4 c (ct_has.mpr (by omega))
  · unfold pPut up1
    rw [if_neg (by omega)]
    exact h5 s (by omega)
  · by_cases z : (k + 1) % 3 = 0
    · unfold pPut up1
      rw [if_neg (by omega), h5 _ (show k / 3 < (k + 1) / 3 by omega)]
      exact Nat.zero_le _
    · unfold pPut up1
      rw [if_pos (by omega), List.length_append, List.length_singleton]
      omega
/-- what is listed -/
theorem eGo_mem {S T : Nat} {du : Nat → Bool} {ok : pL → Bool} : ∀ n, n ≤ 9 → ∀ L, eOk S T du (9 - n) L → ∀ M ∈ eGo S T du ok n L, eOk S T du 9 M ∧ ok M = true := by
  intro n
  induction n with
  | zero =>
    intro _ L h M hM
    rw [eGo] at hM
    split at hM
    · next e =>
      rw [List.mem_singleton.mp hM]
      exact ⟨h, e⟩
    · exact absurd hM List.not_mem_nil
  | succ n ih =>
    intro hn L h M hM
    rw [eGo] at hM
    rcases List.mem_append.mp hM with z | z
    · exact ih (by omega) L (by have := eOk_pass h; rw [show 9 - (n + 1) + 1 = 9 - n by omega] at this; exact this) M z
    · obtain ⟨b, hb, z⟩ := List.mem_flatMap.mp z
      split at z
      · next e =>
        refine ih (by omega) _ ?_ M z
        have := eOk_put (by omega) (List.mem_range.mp hb) (show eOk S T du (8 - n) L by rw [show 8 - n = 9 - (n + 1) by omega]; exact h) e
        rw [show 8 - n + 1 = 9 - n by omega] at this
        exact this
      · exact absurd z List.not_mem_nil
/-- how many may be listed: slots left, whether the slot is open, boxes that wait -/
def eNum : Nat → Bool → Nat → Nat
  | 0, _, w => if w = 0 then 1 else 0
  | n + 1, o, w => eNum n (decide ((8 - n) % 3 = 2)) w + if o = true then w * eNum n true (w - 1) else 0
def wt5 (du : Nat → Bool) (L : pL) : Nat := (List.range 5).countP (fun b => du b && !decide (pHas L b))
theorem sum_le {α : Type} (p : α → Bool) (f : α → Nat) (m : Nat) : ∀ l : List α, (∀ a ∈ l, p a = true → f a ≤ m) → (∀ a ∈ l, ¬ p a = true → f a = 0) → (l.map f).sum ≤ l.countP p * m := by
  intro l
  induction l with
  | nil => intro _ _; exact Nat.zero_le _
  | cons a l ih =>
    intro h1 h2
    have i := ih (fun c hc => h1 c (List.mem_cons_of_mem _ hc)) (fun c hc => h2 c (List.mem_cons_of_mem _ hc))
    rw [List.map_cons, List.sum_cons, List.countP_cons]
    by_cases hp : p a = true
    · rw [if_pos hp, Nat.add_mul, Nat.one_mul]
      have := h1 a (List.mem_cons_self ..) hp
      omega
    · rw [if_neg hp, Nat.add_zero, h2 a (List.mem_cons_self ..) hp, Nat.zero_add]
      exact i
theorem countP_one (p q : Nat → Bool) (b : Nat) (hp : p b = true) (hq : q b = false) (he : ∀ c, ¬ c = b → q c = p c) : ∀ l : List Nat, l.countP p = l.countP q + l.count b := by
  intro l
  induction l with
  | nil => rfl
  | cons a l ih =>
    rw [List.countP_cons, List.countP_cons, List.count_cons, ih]
    by_cases h : a = b
    · subst h
      simp [hp, hq]
      omega
    · rw [he a h]
      simp [h]
      omega
theorem wt5_put {du : Nat → Bool} {L : pL} {s b : Nat} (hs : s < 3) (hb : b < 5) (h1 : du b = true) (h2 : ¬ pHas L b) : wt5 du L = wt5 du (pPut L s b) + 1 := by
  unfold wt5
  have h3 : pHas (pPut L s b) b := ct_has.mpr (by rw [ct_put hs, if_pos rfl]; omega)
  rw [countP_one (fun b => du b && !decide (pHas L b)) (fun c => du c && !decide (pHas (pPut L s b) c)) b (by simp only [h1, h2]; rfl) (by simp only [h3, h1]; rfl)]
  · congr 1
    have u : b = 0 ∨ b = 1 ∨ b = 2 ∨ b = 3 ∨ b = 4 := by omega
    rcases u with rfl | rfl | rfl | rfl | rfl <;> rfl
  · intro c hc
    have : pHas (pPut L s b) c ↔ pHas L c := by
      rw [ct_has, ct_has, ct_put hs, if_neg hc]
      rfl
    simp only [this]
theorem eGo_len {S T : Nat} {du : Nat → Bool} {ok : pL → Bool} (hok : ∀ L, ok L = true → wt5 du L = 0) : ∀ n, n ≤ 9 → ∀ L, eOk S T du (9 - n) L → (eGo S T du ok n L).length ≤ eNum n (decide ((L ((9 - n) / 3)).length = (9 - n) % 3)) (wt5 du L) := by
  intro n
  induction n with
  | zero =>
    intro _ L h
    rw [eGo, eNum]
    split
    · next e => rw [if_pos (hok L e)]; exact Nat.le_refl _
    · exact Nat.zero_le _
  | succ n ih =>
    intro hn L h
    rw [eGo, eNum, List.length_append, List.length_flatMap, show 9 - (n + 1) = 8 - n by omega]
    rw [show 9 - (n + 1) = 8 - n by omega] at h
    have hp := eOk_pass h
    rw [show 8 - n + 1 = 9 - n by omega] at hp
    have a1 := ih (by omega) L hp
    have e1 : decide ((L ((9 - n) / 3)).length = (9 - n) % 3) = decide ((8 - n) % 3 = 2) := by
      apply decide_eq_decide.mpr
      obtain ⟨-, -, -, -, h5, h6⟩ := h
      by_cases z : (8 - n) % 3 = 2
      · rw [h5 _ (show (8 - n) / 3 < (9 - n) / 3 by omega)]
        simp only [List.length_nil, z, iff_true]
        omega
      · rw [show (9 - n) / 3 = (8 - n) / 3 by omega]
        simp only [z, iff_false]
        omega
    rw [e1] at a1
    refine Nat.add_le_add a1 ?_
    by_cases o : (L ((8 - n) / 3)).length = (8 - n) % 3
    · rw [if_pos (decide_eq_true o)]
      refine sum_le (fun b => du b && !decide (pHas L b)) _ _ _ (fun b hb hq => ?_) (fun b hb hq => ?_)
      · rw [Bool.and_eq_true, Bool.not_eq_true', decide_eq_false_iff_not] at hq
        split
        · next e =>
          have hb := List.mem_range.mp hb
          have a2 := ih (by omega) (pPut L ((8 - n) / 3) b) (by have := eOk_put (by omega) hb h e; rw [show 8 - n + 1 = 9 - n by omega] at this; exact this)
          rw [show wt5 du L - 1 = wt5 du (pPut L ((8 - n) / 3) b) by rw [wt5_put (s := (8 - n) / 3) (by omega) hb hq.1 hq.2]; omega]
          have e2 : decide ((pPut L ((8 - n) / 3) b ((9 - n) / 3)).length = (9 - n) % 3) = true := by
            apply decide_eq_true
            unfold pPut up1
            by_cases z : (8 - n) % 3 = 2
            · rw [if_neg (by omega), h.2.2.2.2.1 _ (show (8 - n) / 3 < (9 - n) / 3 by omega), List.length_nil]
              omega
            · rw [if_pos (by omega), List.length_append, List.length_singleton]
              omega
          rw [e2] at a2
          exact a2
        · exact Nat.zero_le _
      · rw [if_neg (fun e => hq ?_)]
        · rfl
        · obtain ⟨⟨_, _, _, m4⟩, m5⟩ := eMay_iff.mp e
          simp only [m5, m4]
          rfl
    · rw [if_neg (by simp only [decide_eq_true_eq]; exact o)]
      have : (List.range 5).map (fun b => (if eMay S T du (8 - n) b L = true then eGo S T du ok n (pPut L ((8 - n) / 3) b) else []).length) = (List.range 5).map (fun _ => 0) := by
        apply List.map_congr_left
        intro b _
        rw [if_neg (fun e => o (eMay_iff.mp e).1.2.2.1)]
        rfl
      rw [this]
      decide
theorem eNum_5 : eNum 9 true 5 = 1440 := by decide +kernel
theorem eNum_le4 : ∀ w : Fin 5, eNum 9 true w.val ≤ 288 := by decide +kernel
