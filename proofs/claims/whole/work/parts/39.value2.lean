/-! the model's act as an act of the value -/
/-- the move of the script at a place, as the arrays hold it -/
def rM (ma : Nat → Nat → Int32) (i b : Nat) (fr : Option Nat) (to : Nat) : Prop :=
  ma 10 i = nI b ∧ b < 5 ∧ (match fr with | some s => ma 12 i = nI s ∧ s < 3 | none => ma 12 i = -1 ∧ ma 13 i = nI to ∧ to < 3)
theorem fw_lt {x S : Nat} (hx : x < 3) (hS : S ≤ 3) (h1 : 1 ≤ S) : fw (nI x) 0 (nI S - 1) = 0 ↔ ¬ x < S := by
  have u1 : x = 0 ∨ x = 1 ∨ x = 2 := by omega
  have u2 : S = 1 ∨ S = 2 ∨ S = 3 := by omega
  rcases u1 with rfl | rfl | rfl <;> rcases u2 with rfl | rfl | rfl <;> decide
theorem getLast?_ix (l : List Nat) (n b : Nat) (h : l.length = n + 1) : l.getLast? = some b ↔ l[n]? = some b := by
  rw [List.getLast?_eq_getElem?, h]; rfl
theorem kM_act_none {l : Launch} (hl : l.stackTraces = false) (d : Nat) (hd : 2 ≤ d) {h : pm_H} {mi : Nat → Int32} {ma : Nat → Nat → Int32} (HA : ModAt h mi ma) {t : Nat} {L : pL} (hY : h[t]? = some (pm_i 9 (sM L))) {S T : Nat} (hL : pOk L T) (hS : mi 1 = nI S) (hS1 : 1 ≤ S) (hS3 : S ≤ 3) (hT : mi 2 = nI T) (hT3 : T ≤ 3) (i : Nat) (hi : i < 60) {b : Nat} {fr : Option Nat} {to : Nat} (hr : rM ma i b fr to) (e : aAct S T (mi 4) (ma 3) b fr to L = none) : pm_Sem l d mM_act [.ref 31, .ref t, .int (nI i)] h (some (.int 0)) h := by
  obtain ⟨e1, hb, hr⟩ := hr
  cases fr with
  | some s =>
    obtain ⟨e2, hs⟩ := hr
    have hk := sM_hn (s := s) hL hT3
    have hlen := hL.len s
    cases hn : (L s).length with
    | zero => exact kM_act_off0 hl d hd HA hY i hi b hb e1 s hs e2 (hk.trans hn)
    | succ n =>
      refine kM_act_offno hl d hd HA hY i hi b hb e1 s hs e2 n (hk.trans hn) ?_
      intro z
      have hj : n < (L s).length := by omega
      rw [sM_in (by omega) (List.getElem?_eq_getElem hj)] at z
      have h5 := hL.box s _ (List.getElem_mem hj)
      have z := nI_inj (by omega) (by omega) z
      have : (L s).getLast? = some b := (getLast?_ix _ n b hn).mpr (by rw [List.getElem?_eq_getElem hj, z])
      simp [aAct, this] at e
  | none =>
    obtain ⟨e2, e3, hto⟩ := hr
    by_cases k0 : to < S
    · have k1 : ¬ fw (nI to) 0 (mi 1 - 1) = 0 := by rw [hS]; exact fun z => (fw_lt hto hS3 hS1).mp z k0
      refine kM_act_onno hl d hd HA hY (sM_f5 hL) i hi b hb e1 e2 to hto e3 k1 hT hT3 ?_
      rw [sM_hn hL hT3, sM_w hL hT3]
      by_cases z : (L to).length = T ∨ mi 4 < pW (ma 3) (L to) + ma 3 b ∨ ¬ fM_in (sM L) (nI b) 9 = 0
      · exact z
      · have z1 : ¬ (L to).length = T := fun y => z (Or.inl y)
        have z2 : ¬ mi 4 < pW (ma 3) (L to) + ma 3 b := fun y => z (Or.inr (Or.inl y))
        have z3 : ¬ pHas L b := fun y => z (Or.inr (Or.inr ((sM_has hL hT3 hb).mpr y)))
        unfold aAct at e
        dsimp only at e
        rw [if_pos ⟨k0, z1, z2, z3⟩] at e
        cases e
    · refine kM_act_onout hl d hd HA hY i hi b hb e1 e2 ?_
      rw [e3, hS]
      exact (fw_lt hto hS3 hS1).mpr k0
theorem kM_act_some {l : Launch} (hl : l.stackTraces = false) (d : Nat) (hd : 2 ≤ d) {h : pm_H} {mi : Nat → Int32} {ma : Nat → Nat → Int32} (HA : ModAt h mi ma) {t : Nat} {L L' : pL} (hY : h[t]? = some (pm_i 9 (sM L))) {S T : Nat} (hL : pOk L T) (hS : mi 1 = nI S) (hS1 : 1 ≤ S) (hS3 : S ≤ 3) (hT : mi 2 = nI T) (hT3 : T ≤ 3) (i : Nat) (hi : i < 60) {b : Nat} {fr : Option Nat} {to : Nat} (hr : rM ma i b fr to) (e : aAct S T (mi 4) (ma 3) b fr to L = some L') : pm_Sem l d mM_act [.ref 31, .ref t, .int (nI i)] h (some (.int 1)) (h.set t (pm_i 9 (sM L'))) := by
  obtain ⟨e1, hb, hr⟩ := hr
  cases fr with
  | some s =>
    obtain ⟨e2, hs⟩ := hr
    have hk := sM_hn (s := s) hL hT3
    have hlen := hL.len s
    unfold aAct at e
    dsimp only at e
    by_cases z : (L s).getLast? = some b
    · rw [if_pos z] at e
      cases e
      cases hn : (L s).length with
      | zero => rw [List.length_eq_zero_iff.mp hn] at z; cases z
      | succ n =>
        rw [← sM_pop hn (by omega)]
        exact kM_act_off hl d hd HA hY i hi b hb e1 s hs e2 n (hk.trans hn) (sM_in (by omega) ((getLast?_ix _ n b hn).mp z))
    · rw [if_neg z] at e
      cases e
  | none =>
    obtain ⟨e2, e3, hto⟩ := hr
    unfold aAct at e
    dsimp only at e
    by_cases z : to < S ∧ ¬ (L to).length = T ∧ ¬ mi 4 < pW (ma 3) (L to) + ma 3 b ∧ ¬ pHas L b
    · rw [if_pos z] at e
      cases e
      obtain ⟨k0, z1, z2, z3⟩ := z
      have hlen := hL.len to
      have k1 : ¬ fw (nI to) 0 (mi 1 - 1) = 0 := by rw [hS]; exact fun z => (fw_lt hto hS3 hS1).mp z k0
      have hk := sM_hn (s := to) hL hT3
      have w := kM_act_on hl d hd HA hY (sM_f5 hL) i hi b hb e1 e2 to hto e3 k1 hT hT3 (by
        rw [hk, sM_w hL hT3]
        rintro (y | y | y)
        · exact z1 y
        · exact z2 y
        · exact z3 ((sM_has hL hT3 hb).mp y)) (by omega)
      rw [hk, sM_push b (by omega)] at w
      exact w
    · rw [if_neg z] at e
      cases e
