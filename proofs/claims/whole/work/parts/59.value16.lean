/-! what is kept and what is shifted, as both sides reckon it -/
theorem sM_cmp {L M : pL} {T T' : Nat} (hL : pOk L T) (hM : pOk M T') (s : Nat) : ∀ t, t < 3 → (t ≤ kp1 (L s) (M s)) → ((sM L (3 * s + t) < 0 ∨ ¬ sM L (3 * s + t) = sM M (3 * s + t)) ↔ t = kp1 (L s) (M s)) := by
  have gen : ∀ (l m : List Nat), (∀ b ∈ l, b < 5) → (∀ b ∈ m, b < 5) → ∀ t, t ≤ kp1 l m → (((match l[t]? with | some b => nI b | none => -1) < (0 : Int32) ∨ ¬ (match l[t]? with | some b => nI b | none => -1) = (match m[t]? with | some b => nI b | none => (-1 : Int32))) ↔ t = kp1 l m) := by
    intro l
    induction l with
    | nil =>
      intro m _ _ t ht
      rw [kp1_nil] at ht ⊢
      simp only [List.getElem?_nil]
      exact ⟨fun _ => by omega, fun _ => Or.inl (by decide)⟩
    | cons a l ih =>
      intro m hl hm t ht
      have ha := hl a (List.mem_cons_self ..)
      cases m with
      | nil =>
        rw [kp1_nil'] at ht ⊢
        have ht : t = 0 := by omega
        subst ht
        simp only [List.getElem?_cons_zero, List.getElem?_nil]
        exact ⟨fun _ => trivial, fun _ => Or.inr (nI_ne_m1 (by omega))⟩
      | cons c m =>
        have hc := hm c (List.mem_cons_self ..)
        rw [kp1] at ht ⊢
        by_cases e : a = c
        · rw [if_pos e] at ht ⊢
          cases t with
          | zero =>
            simp only [List.getElem?_cons_zero]
            exact ⟨fun h => by rcases h with h | h
                               · exact absurd h (nI_pos (by omega))
                               · rw [e] at h; exact absurd rfl h, fun h => by omega⟩
          | succ t =>
            simp only [List.getElem?_cons_succ]
            rw [ih m (fun b hb => hl b (List.mem_cons_of_mem _ hb)) (fun b hb => hm b (List.mem_cons_of_mem _ hb)) t (by omega)]
            omega
        · rw [if_neg e] at ht ⊢
          have ht : t = 0 := by omega
          subst ht
          simp only [List.getElem?_cons_zero]
          exact ⟨fun _ => trivial, fun _ => Or.inr (fun z => e (nI_inj (by omega) (by omega) z))⟩
  intro t ht hk
  rw [sM_ix L s t ht, sM_ix M s t ht]
  exact gen (L s) (M s) (hL.box s) (hM.box s) t hk
theorem st_val {L M : pL} {T T' : Nat} (hL : pOk L T) (hM : pOk M T') (hT : T ≤ 3) {s : Nat} (hs : s < 3) : fM_st (cM L) (cM M) s 3 0 = kp1 (L s) (M s) := by
  have hk : kp1 (L s) (M s) ≤ 3 := by have := (kp1_le (L s) (M s)).1; have := hL.len s; omega
  have : ∀ m j, m + j = 3 → j ≤ kp1 (L s) (M s) → fM_st (cM L) (cM M) s m j = kp1 (L s) (M s) := by
    intro m
    induction m with
    | zero => intro j hj h; rw [fM_st]; omega
    | succ m ih =>
      intro j hj h
      rw [fM_st, boxAt_val hL (by omega), boxAt_val hM (by omega)]
      by_cases z : j = kp1 (L s) (M s)
      · rw [if_pos ((sM_cmp hL hM s j (by omega) h).mpr z)]; exact z
      · rw [if_neg (fun y => z ((sM_cmp hL hM s j (by omega) h).mp y))]
        exact ih (j + 1) (by omega) (by omega)
  exact this 3 0 rfl (Nat.zero_le _)
theorem sM_m1 {L : pL} {T s j : Nat} (hL : pOk L T) (hj : j < 3) : sM L (3 * s + j) = -1 ↔ sM L (3 * s + j) < 0 := by
  rw [sM_neg hL hj]
  constructor
  · intro h
    by_cases h1 : j < (L s).length
    · rw [sM_in hj (List.getElem?_eq_getElem h1)] at h
      have := hL.box s _ (List.getElem_mem h1)
      exact absurd h (nI_ne_m1 (by omega))
    · omega
  · exact sM_no hj
theorem kept_val {L M : pL} {T T' : Nat} (hL : pOk L T) (hM : pOk M T') (hT : T ≤ 3) {s : Nat} (hs : s < 3) : fC_keptIn (nI s) (cC L) (cC M) = nI (kp1 (L s) (M s)) := by
  have hk : kp1 (L s) (M s) ≤ 3 := by have := (kp1_le (L s) (M s)).1; have := hL.len s; omega
  have b0 := boxIn_val hL hs (show 0 < 3 by decide)
  have bn1 := boxIn_val hL hs (show 1 < 3 by decide)
  have b2 := boxIn_val hL hs (show 2 < 3 by decide)
  have c0 := boxIn_val hM hs (show 0 < 3 by decide)
  have c1 := boxIn_val hM hs (show 1 < 3 by decide)
  have c2 := boxIn_val hM hs (show 2 < 3 by decide)
  have e0 : nI 0 = 0 := rfl
  have e1 : nI 1 = 1 := rfl
  have e2 : nI 2 = 2 := rfl
  rw [e0] at b0 c0
  rw [e1] at bn1 c1
  rw [e2] at b2 c2
  unfold fC_keptIn
  rw [b0, bn1, b2, c0, c1, c2]
  have q : ∀ t, t < 3 → (t ≤ kp1 (L s) (M s)) → ((sM L (3 * s + t) = -1 ∨ ¬ sM L (3 * s + t) = sM M (3 * s + t)) ↔ t = kp1 (L s) (M s)) := fun t ht hk => (or_congr (sM_m1 hL ht) Iff.rfl).trans (sM_cmp hL hM s t ht hk)
  by_cases z0 : 0 = kp1 (L s) (M s)
  · rw [if_pos ((q 0 (by decide) (by omega)).mpr z0), ← z0]; rfl
  · rw [if_neg (fun y => z0 ((q 0 (by decide) (by omega)).mp y))]
    by_cases z1 : 1 = kp1 (L s) (M s)
    · rw [if_pos ((q 1 (by decide) (by omega)).mpr z1), ← z1]; rfl
    · rw [if_neg (fun y => z1 ((q 1 (by decide) (by omega)).mp y))]
      by_cases z2 : 2 = kp1 (L s) (M s)
      · rw [if_pos ((q 2 (by decide) (by omega)).mpr z2), ← z2]; rfl
      · rw [if_neg (fun y => z2 ((q 2 (by decide) (by omega)).mp y)), show kp1 (L s) (M s) = 3 by omega]; rfl
theorem keptAll_val {L M : pL} {T T' : Nat} (hL : pOk L T) (hM : pOk M T') (hT : T ≤ 3) : fC_kept (cC L) (cC M) = nI (kpt L M) := by
  unfold fC_kept kpt
  have k0 := kept_val hL hM hT (show 0 < 3 by decide)
  have k1 := kept_val hL hM hT (show 1 < 3 by decide)
  have k2 := kept_val hL hM hT (show 2 < 3 by decide)
  rw [show nI 0 = 0 from rfl] at k0
  rw [show nI 1 = 1 from rfl] at k1
  rw [show nI 2 = 2 from rfl] at k2
  rw [k0, k1, k2, Int32.zero_add, nI_addm, nI_addm]
/-- a box is somewhere in the other -/
theorem has_val {M : pL} {T : Nat} (hM : pOk M T) (hT : T ≤ 3) {b : Nat} (hb : b < 5) : ¬ fM_has (cM M) (nI b) 9 = 0 ↔ pHas M b := by
  have : ∀ j, j ≤ 9 → fM_has (cM M) (nI b) j = fM_in (sM M) (nI b) j := by
    intro j
    induction j with
    | zero => intro _; rfl
    | succ j ih => intro hj; rw [fM_has, fM_in, ih (by omega), boxAt_val hM (by omega)]
  rw [this 9 (Nat.le_refl _)]
  exact sM_has hM hT hb
def shS (L M : pL) (s : Nat) : Nat := ((L s).drop (kp1 (L s) (M s))).countP (fun b => decide (pHas M b))
theorem shi_val {L M : pL} {T T' : Nat} (hL : pOk L T) (hM : pOk M T') (hT : T ≤ 3) (hT' : T' ≤ 3) {s : Nat} (hs : s < 3) : ∀ m t n, m + t = 3 → fM_shi (cM L) (cM M) s m t (nI n) = nI (n + ((L s).drop t).countP (fun b => decide (pHas M b))) := by
  intro m
  induction m with
  | zero =>
    intro t n ht
    have := hL.len s
    rw [fM_shi, List.drop_of_length_le (by omega)]
    rfl
  | succ m ih =>
    intro t n ht
    rw [fM_shi, boxAt_val hL (by omega)]
    by_cases z : t < (L s).length
    · have e := sM_in (L := L) (s := s) (j := t) (by omega) (List.getElem?_eq_getElem z)
      have hb := hL.box s _ (List.getElem_mem z)
      rw [e, List.drop_eq_getElem_cons z, List.countP_cons]
      by_cases y : pHas M (L s)[t]
      · rw [if_pos ⟨nI_pos (by omega), (has_val hM hT' hb).mpr y⟩, ← nI_succ, ih (t + 1) (n + 1) (by omega), if_pos (decide_eq_true y)]
        congr 1
        omega
      · rw [if_neg (fun x => y ((has_val hM hT' hb).mp x.2)), ih (t + 1) n (by omega), if_neg (by simp only [decide_eq_true_eq]; exact y)]
        rfl
    · rw [if_neg (fun x => x.1 ((sM_neg hL (by omega)).mpr (by omega))), ih (t + 1) n (by omega), List.drop_of_length_le (by omega), List.drop_of_length_le (by omega)]
theorem sho_val {L M : pL} {T T' : Nat} (hL : pOk L T) (hM : pOk M T') (hT : T ≤ 3) (hT' : T' ≤ 3) : fM_sho (cM L) (cM M) 3 = nI (shS L M 0 + shS L M 1 + shS L M 2) := by
  have : ∀ s, s < 3 → ∀ n, fM_sho (cM L) (cM M) s = nI n → fM_sho (cM L) (cM M) (s + 1) = nI (n + shS L M s) := by
    intro s hs n h
    have hk : kp1 (L s) (M s) ≤ 3 := by have := (kp1_le (L s) (M s)).1; have := hL.len s; omega
    rw [fM_sho, h, st_val hL hM hT hs, shi_val hL hM hT hT' hs _ _ _ (by omega)]
    rfl
  have r1 := this 0 (by decide) 0 rfl
  have r2 := this 1 (by decide) _ r1
  have r3 := this 2 (by decide) _ r2
  rw [Nat.zero_add] at r3
  exact r3
theorem countP_le_sum (p : Nat → Bool) : ∀ l : List Nat, (∀ b ∈ l, b < 5) → l.countP p = l.count 0 * (p 0).toNat + l.count 1 * (p 1).toNat + l.count 2 * (p 2).toNat + l.count 3 * (p 3).toNat + l.count 4 * (p 4).toNat := by
  intro l
  induction l with
  | nil => intro _; simp
  | cons a l ih =>
    intro h
    have i := ih (fun b hb => h b (List.mem_cons_of_mem _ hb))
    have ha := h a (List.mem_cons_self ..)
    have u : a = 0 ∨ a = 1 ∨ a = 2 ∨ a = 3 ∨ a = 4 := by omega
    rw [List.countP_cons, i]
    rcases u with rfl | rfl | rfl | rfl | rfl
    · simp only [List.count_cons]; cases p 0 <;> simp <;> omega
    · simp only [List.count_cons]; cases p 1 <;> simp <;> omega
    · simp only [List.count_cons]; cases p 2 <;> simp <;> omega
    · simp only [List.count_cons]; cases p 3 <;> simp <;> omega
    · simp only [List.count_cons]; cases p 4 <;> simp <;> omega
theorem shS_cost {L M : pL} {T T' : Nat} (hL : pOk L T) (hM : pOk M T') (h1 : ∀ b, ct L b ≤ 1) : shS L M 0 + shS L M 1 + shS L M 2 = cost L M := by
  have k : ∀ s, s < 3 → (L s).countP (fun b => decide (pHas M b)) = kp1 (L s) (M s) + shS L M s := by
    intro s hs
    have e := List.take_append_drop (kp1 (L s) (M s)) (L s)
    have c : (L s).countP (fun b => decide (pHas M b)) = ((L s).take (kp1 (L s) (M s)) ++ (L s).drop (kp1 (L s) (M s))).countP (fun b => decide (pHas M b)) := by rw [e]
    rw [c, List.countP_append]
    congr 1
    rw [List.countP_eq_length.mpr, List.length_take]
    · have := kp1_le (L s) (M s)
      omega
    · intro b hb
      rw [kp1_take] at hb
      have hb := (List.take_sublist _ _).subset hb
      apply decide_eq_true
      have u : s = 0 ∨ s = 1 ∨ s = 2 := by omega
      rcases u with rfl | rfl | rfl
      · exact Or.inl hb
      · exact Or.inr (Or.inl hb)
      · exact Or.inr (Or.inr hb)
  have q : ∀ b, ((L 0).count b + (L 1).count b + (L 2).count b) * (decide (pHas M b)).toNat = bn1 (pHas L b ∧ pHas M b) := by
    intro b
    have o := h1 b
    have eL : ct L b = (L 0).count b + (L 1).count b + (L 2).count b := rfl
    rw [← eL]
    unfold bn1
    by_cases y : pHas M b
    · by_cases x : pHas L b
      · rw [if_pos ⟨x, y⟩]
        have := ct_has.mp x
        simp only [y, decide_true, Bool.toNat_true]
        omega
      · rw [if_neg (fun z => x z.1)]
        have : ¬ 0 < ct L b := fun z => x (ct_has.mpr z)
        rw [show ct L b = 0 by omega, Nat.zero_mul]
    · rw [if_neg (fun z => y z.2)]
      simp only [y, decide_false, Bool.toNat_false, Nat.mul_zero]
  have s0 := countP_le_sum (fun b => decide (pHas M b)) _ (hL.box 0)
  have s1 := countP_le_sum (fun b => decide (pHas M b)) _ (hL.box 1)
  have s2 := countP_le_sum (fun b => decide (pHas M b)) _ (hL.box 2)
  rw [k 0 (by decide)] at s0
  rw [k 1 (by decide)] at s1
  rw [k 2 (by decide)] at s2
  have t := shr_sum L M
  have q0 := q 0
  have q1 := q 1
  have q2 := q 2
  have q3 := q 3
  have q4 := q 4
  rw [Nat.add_mul, Nat.add_mul] at q0 q1 q2 q3 q4
  unfold cost kpt
  omega
theorem shifts_val {L M : pL} {T T' : Nat} (hL : pOk L T) (hM : pOk M T') (hT : T ≤ 3) (hT' : T' ≤ 3) (h1 : ∀ b, ct L b ≤ 1) : fM_sho (cM L) (cM M) 3 = nI (cost L M) := by
  rw [sho_val hL hM hT hT', shS_cost hL hM h1]
