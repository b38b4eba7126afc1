/-! writing a list into an array; the moves of a plan -/
def lsW (f : Nat → Int32) : Nat → List Int32 → Nat → Int32
  | _, [] => f
  | n, x :: xs => lsW (upd f n x) (n + 1) xs
theorem lsW_app : ∀ (xs ys : List Int32) (f : Nat → Int32) (n : Nat), lsW f n (xs ++ ys) = lsW (lsW f n xs) (n + xs.length) ys := by
  intro xs
  induction xs with
  | nil => intro ys f n; rfl
  | cons x xs ih =>
    intro ys f n
    show lsW (upd f n x) (n + 1) (xs ++ ys) = lsW (lsW (upd f n x) (n + 1) xs) (n + (xs.length + 1)) ys
    rw [ih, show n + 1 + xs.length = n + (xs.length + 1) by omega]
theorem lsW_snoc (f : Nat → Int32) (n : Nat) (xs : List Int32) (x : Int32) : lsW f n (xs ++ [x]) = upd (lsW f n xs) (n + xs.length) x := by
  rw [lsW_app]
  rfl
theorem lsW_out : ∀ (xs : List Int32) (f : Nat → Int32) (n k : Nat), (k < n ∨ n + xs.length ≤ k) → lsW f n xs k = f k := by
  intro xs
  induction xs with
  | nil => intro f n k _; rfl
  | cons x xs ih =>
    intro f n k h
    rw [List.length_cons] at h
    show lsW (upd f n x) (n + 1) xs k = f k
    rw [ih _ _ _ (by omega)]
    unfold upd
    rw [if_neg (by omega)]
theorem lsW_at : ∀ (xs : List Int32) (f : Nat → Int32) (n i : Nat) (h : i < xs.length), lsW f n xs (n + i) = xs[i] := by
  intro xs
  induction xs with
  | nil => intro f n i h; exact absurd h (Nat.not_lt_zero _)
  | cons x xs ih =>
    intro f n i h
    show lsW (upd f n x) (n + 1) xs (n + i) = _
    cases i with
    | zero =>
      rw [lsW_out _ _ _ _ (by omega)]
      unfold upd
      rw [if_pos (Nat.add_zero n)]
      rfl
    | succ i =>
      rw [show n + (i + 1) = n + 1 + i by omega, ih _ _ _ (Nat.lt_of_succ_lt_succ h)]
      rfl
abbrev pQ := Nat × Nat × Option Nat × Nat
def cl (j : Nat) (r : pQ) : Int32 :=
  if j = 0 then nI r.1 else if j = 1 then nI r.2.1 else if j = 2 then (match r.2.2.1 with | some s => nI s | none => -1) else match r.2.2.1 with | some _ => -1 | none => nI r.2.2.2
/-- the four arrays of a script with moves added -/
def scW (sc : Nat → Nat → Int32) (n : Nat) (R : List pQ) : Nat → Nat → Int32 := fun j => lsW (sc j) n (R.map (cl j))
theorem scW_app (sc : Nat → Nat → Int32) (n : Nat) (R R' : List pQ) : scW sc n (R ++ R') = scW (scW sc n R) (n + R.length) R' := by
  funext j
  unfold scW
  rw [List.map_append, lsW_app, List.length_map]
theorem scW_nil (sc : Nat → Nat → Int32) (n : Nat) : scW sc n [] = sc := rfl
def mvOff (L M : pL) (p s : Nat) : List pQ := ((L s).drop (kp1 (L s) (M s))).reverse.map (fun b => (b, p, some s, 0))
def mvOn (L M : pL) (p s : Nat) : List pQ := ((M s).drop (kp1 (L s) (M s))).map (fun b => (b, p, none, s))
def offs (L M : pL) (p : Nat) : Nat → List pQ
  | 0 => []
  | s + 1 => offs L M p s ++ mvOff L M p s
def ons (L M : pL) (p : Nat) : Nat → List pQ
  | 0 => []
  | s + 1 => ons L M p s ++ mvOn L M p s
def mvs (L M : pL) (p : Nat) : List pQ := offs L M p 3 ++ ons L M p 3
def mvAll : Nat → pL → List pL → List pQ
  | p, L, [] => mvs L pE p
  | p, L, M :: Ms => mvs L M p ++ mvAll (p + 1) M Ms
theorem offs_S {L M : pL} {p S : Nat} (hL : pIn L S) : ∀ n, offs L M p (S + n) = offs L M p S := by
  intro n
  induction n with
  | zero => rfl
  | succ n ih =>
    rw [← Nat.add_assoc, offs, ih]
    unfold mvOff
    rw [hL (S + n) (by omega), List.drop_nil]
    exact List.append_nil _
theorem ons_S {L M : pL} {p S : Nat} (hM : pIn M S) : ∀ n, ons L M p (S + n) = ons L M p S := by
  intro n
  induction n with
  | zero => rfl
  | succ n ih =>
    rw [← Nat.add_assoc, ons, ih]
    unfold mvOn
    rw [hM (S + n) (by omega), List.drop_nil]
    exact List.append_nil _
theorem mvs_len (L M : pL) (p : Nat) : (mvs L M p).length ≤ pLen L + pLen M := by
  have e : (mvs L M p).length = (0 + (mvOff L M p 0).length + (mvOff L M p 1).length + (mvOff L M p 2).length) + (0 + (mvOn L M p 0).length + (mvOn L M p 1).length + (mvOn L M p 2).length) := by
    unfold mvs
    rw [List.length_append, offs, offs, offs, offs, ons, ons, ons, ons, List.length_append, List.length_append, List.length_append, List.length_append, List.length_append, List.length_append]
    rfl
  have a : ∀ s, (mvOff L M p s).length ≤ (L s).length := fun s => by
    unfold mvOff
    rw [List.length_map, List.length_reverse, List.length_drop]
    omega
  have b : ∀ s, (mvOn L M p s).length ≤ (M s).length := fun s => by
    unfold mvOn
    rw [List.length_map, List.length_drop]
    omega
  have := a 0
  have := a 1
  have := a 2
  have := b 0
  have := b 1
  have := b 2
  unfold pLen
  omega
theorem pLen_le5 {L : pL} {T : Nat} (hL : pOk L T) (h1 : ∀ b, ct L b ≤ 1) : pLen L ≤ 5 := by
  rw [← pLen_shr (M := L) hL h1 (fun _ h => h)]
  exact shr_le5 _ _
theorem pLen_pE : pLen pE = 0 := rfl
theorem mvAll_len : ∀ (Ms : List pL) (p : Nat) (L : pL), (∀ M ∈ Ms, pLen M ≤ 5) → (mvAll p L Ms).length ≤ pLen L + 10 * Ms.length := by
  intro Ms
  induction Ms with
  | nil =>
    intro p L _
    have := mvs_len L pE p
    rw [pLen_pE] at this
    rw [mvAll, List.length_nil]
    omega
  | cons M Ms ih =>
    intro p L h
    have := mvs_len L M p
    have := ih (p + 1) M (fun N hN => h N (List.mem_cons_of_mem _ hN))
    have := h M (List.mem_cons_self ..)
    rw [mvAll, List.length_append, List.length_cons]
    omega
/-- what every move of a plan is -/
def qOk (S P : Nat) (r : pQ) : Prop := r.1 < 5 ∧ r.2.1 < P ∧ (match r.2.2.1 with | some s => s < S | none => r.2.2.2 < S)
theorem mvs_ok {L M : pL} {T T' S P p : Nat} (hL : pOk L T) (hM : pOk M T') (iL : pIn L S) (iM : pIn M S) (hp : p < P) : ∀ r ∈ mvs L M p, qOk S P r := by
  have a : ∀ s, ∀ r ∈ mvOff L M p s, qOk S P r := by
    intro s r hr
    obtain ⟨b, hb, rfl⟩ := List.mem_map.mp hr
    have hb := (List.drop_sublist _ _).subset (List.mem_reverse.mp hb)
    refine ⟨hL.box s b hb, hp, ?_⟩
    show s < S
    by_cases h : S ≤ s
    · rw [iL s h] at hb; exact absurd hb List.not_mem_nil
    · omega
  have b : ∀ s, ∀ r ∈ mvOn L M p s, qOk S P r := by
    intro s r hr
    obtain ⟨b, hb, rfl⟩ := List.mem_map.mp hr
    have hb := (List.drop_sublist _ _).subset hb
    refine ⟨hM.box s b hb, hp, ?_⟩
    show s < S
    by_cases h : S ≤ s
    · rw [iM s h] at hb; exact absurd hb List.not_mem_nil
    · omega
  have a' : ∀ n, ∀ r ∈ offs L M p n, qOk S P r := by
    intro n
    induction n with
    | zero => intro r hr; exact absurd hr List.not_mem_nil
    | succ n ih =>
      intro r hr
      rcases List.mem_append.mp hr with h | h
      · exact ih r h
      · exact a n r h
  have b' : ∀ n, ∀ r ∈ ons L M p n, qOk S P r := by
    intro n
    induction n with
    | zero => intro r hr; exact absurd hr List.not_mem_nil
    | succ n ih =>
      intro r hr
      rcases List.mem_append.mp hr with h | h
      · exact ih r h
      · exact b n r h
  intro r hr
  rcases List.mem_append.mp hr with h | h
  · exact a' 3 r h
  · exact b' 3 r h
theorem pE_in (S : Nat) : pIn pE S := fun _ _ => rfl
theorem mvAll_ok {T S P : Nat} : ∀ (Ms : List pL) (p : Nat) (L : pL), pOk L T → pIn L S → (∀ M ∈ Ms, pOk M T ∧ pIn M S) → p + Ms.length < P → ∀ r ∈ mvAll p L Ms, qOk S P r := by
  intro Ms
  induction Ms with
  | nil =>
    intro p L hL iL _ hp
    exact mvs_ok hL (pE_ok T) iL (pE_in S) hp
  | cons M Ms ih =>
    intro p L hL iL h hp r hr
    rw [List.length_cons] at hp
    obtain ⟨hM, iM⟩ := h M (List.mem_cons_self ..)
    rcases List.mem_append.mp hr with z | z
    · exact mvs_ok hL hM iL iM (by omega) r z
    · exact ih (p + 1) M hM iM (fun N hN => h N (List.mem_cons_of_mem _ hN)) (by omega) r z
theorem pick_mem {A : Nat → List pL} : ∀ (n p : Nat) (L : pL), ∀ M ∈ pick A n p L, ∃ q, p ≤ q ∧ q < p + n ∧ M ∈ A q := by
  intro n
  induction n with
  | zero => intro p L M h; exact absurd h List.not_mem_nil
  | succ n ih =>
    intro p L M h
    rw [pick] at h
    split at h
    · next N e =>
      rcases List.mem_cons.mp h with rfl | h
      · exact ⟨p, Nat.le_refl _, by omega, List.mem_of_find?_eq_some e⟩
      · obtain ⟨q, h1, h2, h3⟩ := ih (p + 1) N M h
        exact ⟨q, by omega, by omega, h3⟩
    · exact absurd h List.not_mem_nil
theorem pick_len {A : Nat → List pL} : ∀ (n p : Nat) (L : pL), (∀ q, p ≤ q → q < p + n → ¬ A q = []) → (pick A n p L).length = n := by
  intro n
  induction n with
  | zero => intro p L _; rfl
  | succ n ih =>
    intro p L h
    obtain ⟨m, e, _⟩ := bo_ex (n + 1) p L h
    obtain ⟨M, e1, _⟩ := pick_ex e
    rw [pick, e1]
    show (pick A n (p + 1) M).length + 1 = n + 1
    rw [ih (p + 1) M (fun q a b => h q (by omega) (by omega))]
